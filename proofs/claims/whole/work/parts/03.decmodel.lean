theorem dX12_init_0 : decode cX12_init 0 = .ok (.aload_n 0, 1) := by decide +kernel
theorem dX12_init_1 : decode cX12_init 1 = .ok (.invokespecial 1, 3) := by decide +kernel
theorem dX12_init_4 : decode cX12_init 4 = .ok (.aload_n 0, 1) := by decide +kernel
theorem dX12_init_5 : decode cX12_init 5 = .ok (.bipush 6, 2) := by decide +kernel
theorem dX12_init_7 : decode cX12_init 7 = .ok (.newarray .int, 2) := by decide +kernel
theorem dX12_init_9 : decode cX12_init 9 = .ok (.putfield 7, 3) := by decide +kernel
theorem dX12_init_12 : decode cX12_init 12 = .ok (.aload_n 0, 1) := by decide +kernel
theorem dX12_init_13 : decode cX12_init 13 = .ok (.bipush 6, 2) := by decide +kernel
theorem dX12_init_15 : decode cX12_init 15 = .ok (.newarray .int, 2) := by decide +kernel
theorem dX12_init_17 : decode cX12_init 17 = .ok (.putfield 13, 3) := by decide +kernel
theorem dX12_init_20 : decode cX12_init 20 = .ok (.aload_n 0, 1) := by decide +kernel
theorem dX12_init_21 : decode cX12_init 21 = .ok (.bipush 6, 2) := by decide +kernel
theorem dX12_init_23 : decode cX12_init 23 = .ok (.newarray .long, 2) := by decide +kernel
theorem dX12_init_25 : decode cX12_init 25 = .ok (.putfield 16, 3) := by decide +kernel
theorem dX12_init_28 : decode cX12_init 28 = .ok (.aload_n 0, 1) := by decide +kernel
theorem dX12_init_29 : decode cX12_init 29 = .ok (.bipush 72, 2) := by decide +kernel
theorem dX12_init_31 : decode cX12_init 31 = .ok (.newarray .long, 2) := by decide +kernel
theorem dX12_init_33 : decode cX12_init 33 = .ok (.putfield 20, 3) := by decide +kernel
theorem dX12_init_36 : decode cX12_init 36 = .ok (.aload_n 0, 1) := by decide +kernel
theorem dX12_init_37 : decode cX12_init 37 = .ok (.bipush 9, 2) := by decide +kernel
theorem dX12_init_39 : decode cX12_init 39 = .ok (.newarray .int, 2) := by decide +kernel
theorem dX12_init_41 : decode cX12_init 41 = .ok (.putfield 23, 3) := by decide +kernel
theorem dX12_init_44 : decode cX12_init 44 = .ok (.aload_n 0, 1) := by decide +kernel
theorem dX12_init_45 : decode cX12_init 45 = .ok (.bipush 20, 2) := by decide +kernel
theorem dX12_init_47 : decode cX12_init 47 = .ok (.newarray .int, 2) := by decide +kernel
theorem dX12_init_49 : decode cX12_init 49 = .ok (.putfield 26, 3) := by decide +kernel
theorem dX12_init_52 : decode cX12_init 52 = .ok (.aload_n 0, 1) := by decide +kernel
theorem dX12_init_53 : decode cX12_init 53 = .ok (.bipush 20, 2) := by decide +kernel
theorem dX12_init_55 : decode cX12_init 55 = .ok (.newarray .int, 2) := by decide +kernel
theorem dX12_init_57 : decode cX12_init 57 = .ok (.putfield 29, 3) := by decide +kernel
theorem dX12_init_60 : decode cX12_init 60 = .ok (.aload_n 0, 1) := by decide +kernel
theorem dX12_init_61 : decode cX12_init 61 = .ok (.bipush 20, 2) := by decide +kernel
theorem dX12_init_63 : decode cX12_init 63 = .ok (.newarray .int, 2) := by decide +kernel
theorem dX12_init_65 : decode cX12_init 65 = .ok (.putfield 32, 3) := by decide +kernel
theorem dX12_init_68 : decode cX12_init 68 = .ok (.aload_n 0, 1) := by decide +kernel
theorem dX12_init_69 : decode cX12_init 69 = .ok (.bipush 20, 2) := by decide +kernel
theorem dX12_init_71 : decode cX12_init 71 = .ok (.newarray .long, 2) := by decide +kernel
theorem dX12_init_73 : decode cX12_init 73 = .ok (.putfield 35, 3) := by decide +kernel
theorem dX12_init_76 : decode cX12_init 76 = .ok (.aload_n 0, 1) := by decide +kernel
theorem dX12_init_77 : decode cX12_init 77 = .ok (.bipush 20, 2) := by decide +kernel
theorem dX12_init_79 : decode cX12_init 79 = .ok (.newarray .int, 2) := by decide +kernel
theorem dX12_init_81 : decode cX12_init 81 = .ok (.putfield 38, 3) := by decide +kernel
theorem dX12_init_84 : decode cX12_init 84 = .ok (.aload_n 0, 1) := by decide +kernel
theorem dX12_init_85 : decode cX12_init 85 = .ok (.bipush 20, 2) := by decide +kernel
theorem dX12_init_87 : decode cX12_init 87 = .ok (.newarray .int, 2) := by decide +kernel
theorem dX12_init_89 : decode cX12_init 89 = .ok (.putfield 41, 3) := by decide +kernel
theorem dX12_init_92 : decode cX12_init 92 = .ok (.aload_n 0, 1) := by decide +kernel
theorem dX12_init_93 : decode cX12_init 93 = .ok (.bipush 20, 2) := by decide +kernel
theorem dX12_init_95 : decode cX12_init 95 = .ok (.newarray .int, 2) := by decide +kernel
theorem dX12_init_97 : decode cX12_init 97 = .ok (.putfield 44, 3) := by decide +kernel
theorem dX12_init_100 : decode cX12_init 100 = .ok (.aload_n 0, 1) := by decide +kernel
theorem dX12_init_101 : decode cX12_init 101 = .ok (.bipush 20, 2) := by decide +kernel
theorem dX12_init_103 : decode cX12_init 103 = .ok (.newarray .int, 2) := by decide +kernel
theorem dX12_init_105 : decode cX12_init 105 = .ok (.putfield 47, 3) := by decide +kernel
theorem dX12_init_108 : decode cX12_init 108 = .ok (.aload_n 0, 1) := by decide +kernel
theorem dX12_init_109 : decode cX12_init 109 = .ok (.bipush 20, 2) := by decide +kernel
theorem dX12_init_111 : decode cX12_init 111 = .ok (.newarray .int, 2) := by decide +kernel
theorem dX12_init_113 : decode cX12_init 113 = .ok (.putfield 50, 3) := by decide +kernel
theorem dX12_init_116 : decode cX12_init 116 = .ok (.aload_n 0, 1) := by decide +kernel
theorem dX12_init_117 : decode cX12_init 117 = .ok (.bipush 20, 2) := by decide +kernel
theorem dX12_init_119 : decode cX12_init 119 = .ok (.newarray .int, 2) := by decide +kernel
theorem dX12_init_121 : decode cX12_init 121 = .ok (.putfield 53, 3) := by decide +kernel
theorem dX12_init_124 : decode cX12_init 124 = .ok (.aload_n 0, 1) := by decide +kernel
theorem dX12_init_125 : decode cX12_init 125 = .ok (.bipush 20, 2) := by decide +kernel
theorem dX12_init_127 : decode cX12_init 127 = .ok (.newarray .int, 2) := by decide +kernel
theorem dX12_init_129 : decode cX12_init 129 = .ok (.putfield 56, 3) := by decide +kernel
theorem dX12_init_132 : decode cX12_init 132 = .ok (.aload_n 0, 1) := by decide +kernel
theorem dX12_init_133 : decode cX12_init 133 = .ok (.bipush 20, 2) := by decide +kernel
theorem dX12_init_135 : decode cX12_init 135 = .ok (.newarray .long, 2) := by decide +kernel
theorem dX12_init_137 : decode cX12_init 137 = .ok (.putfield 59, 3) := by decide +kernel
theorem dX12_init_140 : decode cX12_init 140 = .ok (.aload_n 0, 1) := by decide +kernel
theorem dX12_init_141 : decode cX12_init 141 = .ok (.bipush 20, 2) := by decide +kernel
theorem dX12_init_143 : decode cX12_init 143 = .ok (.newarray .int, 2) := by decide +kernel
theorem dX12_init_145 : decode cX12_init 145 = .ok (.putfield 62, 3) := by decide +kernel
theorem dX12_init_148 : decode cX12_init 148 = .ok (.aload_n 0, 1) := by decide +kernel
theorem dX12_init_149 : decode cX12_init 149 = .ok (.bipush 20, 2) := by decide +kernel
theorem dX12_init_151 : decode cX12_init 151 = .ok (.newarray .boolean, 2) := by decide +kernel
theorem dX12_init_153 : decode cX12_init 153 = .ok (.putfield 65, 3) := by decide +kernel
theorem dX12_init_156 : decode cX12_init 156 = .ok (.aload_n 0, 1) := by decide +kernel
theorem dX12_init_157 : decode cX12_init 157 = .ok (.bipush 20, 2) := by decide +kernel
theorem dX12_init_159 : decode cX12_init 159 = .ok (.newarray .long, 2) := by decide +kernel
theorem dX12_init_161 : decode cX12_init 161 = .ok (.putfield 69, 3) := by decide +kernel
theorem dX12_init_164 : decode cX12_init 164 = .ok (.aload_n 0, 1) := by decide +kernel
theorem dX12_init_165 : decode cX12_init 165 = .ok (.bipush 20, 2) := by decide +kernel
theorem dX12_init_167 : decode cX12_init 167 = .ok (.newarray .long, 2) := by decide +kernel
theorem dX12_init_169 : decode cX12_init 169 = .ok (.putfield 72, 3) := by decide +kernel
theorem dX12_init_172 : decode cX12_init 172 = .ok (.aload_n 0, 1) := by decide +kernel
theorem dX12_init_173 : decode cX12_init 173 = .ok (.bipush 20, 2) := by decide +kernel
theorem dX12_init_175 : decode cX12_init 175 = .ok (.newarray .long, 2) := by decide +kernel
theorem dX12_init_177 : decode cX12_init 177 = .ok (.putfield 75, 3) := by decide +kernel
theorem dX12_init_180 : decode cX12_init 180 = .ok (.aload_n 0, 1) := by decide +kernel
theorem dX12_init_181 : decode cX12_init 181 = .ok (.sipush 240, 3) := by decide +kernel
theorem dX12_init_184 : decode cX12_init 184 = .ok (.newarray .long, 2) := by decide +kernel
theorem dX12_init_186 : decode cX12_init 186 = .ok (.putfield 78, 3) := by decide +kernel
theorem dX12_init_189 : decode cX12_init 189 = .ok (.aload_n 0, 1) := by decide +kernel
theorem dX12_init_190 : decode cX12_init 190 = .ok (.sipush 3216, 3) := by decide +kernel
theorem dX12_init_193 : decode cX12_init 193 = .ok (.newarray .long, 2) := by decide +kernel
theorem dX12_init_195 : decode cX12_init 195 = .ok (.putfield 81, 3) := by decide +kernel
theorem dX12_init_198 : decode cX12_init 198 = .ok (.aload_n 0, 1) := by decide +kernel
theorem dX12_init_199 : decode cX12_init 199 = .ok (.bipush 16, 2) := by decide +kernel
theorem dX12_init_201 : decode cX12_init 201 = .ok (.newarray .int, 2) := by decide +kernel
theorem dX12_init_203 : decode cX12_init 203 = .ok (.putfield 84, 3) := by decide +kernel
theorem dX12_init_206 : decode cX12_init 206 = .ok (.aload_n 0, 1) := by decide +kernel
theorem dX12_init_207 : decode cX12_init 207 = .ok (.bipush 24, 2) := by decide +kernel
theorem dX12_init_209 : decode cX12_init 209 = .ok (.newarray .long, 2) := by decide +kernel
theorem dX12_init_211 : decode cX12_init 211 = .ok (.putfield 87, 3) := by decide +kernel
theorem dX12_init_214 : decode cX12_init 214 = .ok (.aload_n 0, 1) := by decide +kernel
theorem dX12_init_215 : decode cX12_init 215 = .ok (.bipush 24, 2) := by decide +kernel
theorem dX12_init_217 : decode cX12_init 217 = .ok (.newarray .int, 2) := by decide +kernel
theorem dX12_init_219 : decode cX12_init 219 = .ok (.putfield 90, 3) := by decide +kernel
theorem dX12_init_222 : decode cX12_init 222 = .ok (.aload_n 0, 1) := by decide +kernel
theorem dX12_init_223 : decode cX12_init 223 = .ok (.bipush 24, 2) := by decide +kernel
theorem dX12_init_225 : decode cX12_init 225 = .ok (.newarray .int, 2) := by decide +kernel
theorem dX12_init_227 : decode cX12_init 227 = .ok (.putfield 93, 3) := by decide +kernel
theorem dX12_init_230 : decode cX12_init 230 = .ok (.aload_n 0, 1) := by decide +kernel
theorem dX12_init_231 : decode cX12_init 231 = .ok (.sipush 200, 3) := by decide +kernel
theorem dX12_init_234 : decode cX12_init 234 = .ok (.newarray .long, 2) := by decide +kernel
theorem dX12_init_236 : decode cX12_init 236 = .ok (.putfield 96, 3) := by decide +kernel
theorem dX12_init_239 : decode cX12_init 239 = .ok (.return_, 1) := by decide +kernel
theorem dX12_thrown_0 : decode cX12_thrown 0 = .ok (.aload_n 0, 1) := by decide +kernel
theorem dX12_thrown_1 : decode cX12_thrown 1 = .ok (.getfield 99, 3) := by decide +kernel
theorem dX12_thrown_4 : decode cX12_thrown 4 = .ok (.ireturn, 1) := by decide +kernel
theorem dX12_shelf_0 : decode cX12_shelf 0 = .ok (.aload_n 0, 1) := by decide +kernel
theorem dX12_shelf_1 : decode cX12_shelf 1 = .ok (.iconst 0, 1) := by decide +kernel
theorem dX12_shelf_2 : decode cX12_shelf 2 = .ok (.putfield 99, 3) := by decide +kernel
theorem dX12_shelf_5 : decode cX12_shelf 5 = .ok (.iload_n 1, 1) := by decide +kernel
theorem dX12_shelf_6 : decode cX12_shelf 6 = .ok (.ifCond .lt 8, 3) := by decide +kernel
theorem dX12_shelf_9 : decode cX12_shelf 9 = .ok (.iload_n 1, 1) := by decide +kernel
theorem dX12_shelf_10 : decode cX12_shelf 10 = .ok (.iconst 5, 1) := by decide +kernel
theorem dX12_shelf_11 : decode cX12_shelf 11 = .ok (.if_icmp .le 5, 3) := by decide +kernel
theorem dX12_shelf_14 : decode cX12_shelf 14 = .ok (.iconst (-1), 1) := by decide +kernel
theorem dX12_shelf_15 : decode cX12_shelf 15 = .ok (.ireturn, 1) := by decide +kernel
theorem dX12_shelf_16 : decode cX12_shelf 16 = .ok (.iload_n 2, 1) := by decide +kernel
theorem dX12_shelf_17 : decode cX12_shelf 17 = .ok (.ifCond .lt 28, 3) := by decide +kernel
theorem dX12_shelf_20 : decode cX12_shelf 20 = .ok (.iload_n 2, 1) := by decide +kernel
theorem dX12_shelf_21 : decode cX12_shelf 21 = .ok (.iconst 3, 1) := by decide +kernel
theorem dX12_shelf_22 : decode cX12_shelf 22 = .ok (.if_icmp .gt 23, 3) := by decide +kernel
theorem dX12_shelf_25 : decode cX12_shelf 25 = .ok (.iload_n 2, 1) := by decide +kernel
theorem dX12_shelf_26 : decode cX12_shelf 26 = .ok (.iconst 1, 1) := by decide +kernel
theorem dX12_shelf_27 : decode cX12_shelf 27 = .ok (.if_icmp .eq 8, 3) := by decide +kernel
theorem dX12_shelf_30 : decode cX12_shelf 30 = .ok (.iload_n 2, 1) := by decide +kernel
theorem dX12_shelf_31 : decode cX12_shelf 31 = .ok (.iconst 2, 1) := by decide +kernel
theorem dX12_shelf_32 : decode cX12_shelf 32 = .ok (.if_icmp .ne 16, 3) := by decide +kernel
theorem dX12_shelf_35 : decode cX12_shelf 35 = .ok (.iload_n 3, 1) := by decide +kernel
theorem dX12_shelf_36 : decode cX12_shelf 36 = .ok (.ifCond .lt 9, 3) := by decide +kernel
theorem dX12_shelf_39 : decode cX12_shelf 39 = .ok (.iload_n 3, 1) := by decide +kernel
theorem dX12_shelf_40 : decode cX12_shelf 40 = .ok (.bipush 12, 2) := by decide +kernel
theorem dX12_shelf_42 : decode cX12_shelf 42 = .ok (.if_icmp .le 6, 3) := by decide +kernel
theorem dX12_shelf_45 : decode cX12_shelf 45 = .ok (.bipush (-2), 2) := by decide +kernel
theorem dX12_shelf_47 : decode cX12_shelf 47 = .ok (.ireturn, 1) := by decide +kernel
theorem dX12_shelf_48 : decode cX12_shelf 48 = .ok (.aload_n 0, 1) := by decide +kernel
theorem dX12_shelf_49 : decode cX12_shelf 49 = .ok (.getfield 7, 3) := by decide +kernel
theorem dX12_shelf_52 : decode cX12_shelf 52 = .ok (.iload_n 1, 1) := by decide +kernel
theorem dX12_shelf_53 : decode cX12_shelf 53 = .ok (.iload_n 2, 1) := by decide +kernel
theorem dX12_shelf_54 : decode cX12_shelf 54 = .ok (.iastore, 1) := by decide +kernel
theorem dX12_shelf_55 : decode cX12_shelf 55 = .ok (.aload_n 0, 1) := by decide +kernel
theorem dX12_shelf_56 : decode cX12_shelf 56 = .ok (.getfield 13, 3) := by decide +kernel
theorem dX12_shelf_59 : decode cX12_shelf 59 = .ok (.iload_n 1, 1) := by decide +kernel
theorem dX12_shelf_60 : decode cX12_shelf 60 = .ok (.iload_n 2, 1) := by decide +kernel
theorem dX12_shelf_61 : decode cX12_shelf 61 = .ok (.iconst 1, 1) := by decide +kernel
theorem dX12_shelf_62 : decode cX12_shelf 62 = .ok (.if_icmp .eq 8, 3) := by decide +kernel
theorem dX12_shelf_65 : decode cX12_shelf 65 = .ok (.iload_n 2, 1) := by decide +kernel
theorem dX12_shelf_66 : decode cX12_shelf 66 = .ok (.iconst 2, 1) := by decide +kernel
theorem dX12_shelf_67 : decode cX12_shelf 67 = .ok (.if_icmp .ne 7, 3) := by decide +kernel
theorem dX12_shelf_70 : decode cX12_shelf 70 = .ok (.iload_n 3, 1) := by decide +kernel
theorem dX12_shelf_71 : decode cX12_shelf 71 = .ok (.goto 4, 3) := by decide +kernel
theorem dX12_shelf_74 : decode cX12_shelf 74 = .ok (.iconst 0, 1) := by decide +kernel
theorem dX12_shelf_75 : decode cX12_shelf 75 = .ok (.iastore, 1) := by decide +kernel
theorem dX12_shelf_76 : decode cX12_shelf 76 = .ok (.aload_n 0, 1) := by decide +kernel
theorem dX12_shelf_77 : decode cX12_shelf 77 = .ok (.getfield 16, 3) := by decide +kernel
theorem dX12_shelf_80 : decode cX12_shelf 80 = .ok (.iload_n 1, 1) := by decide +kernel
theorem dX12_shelf_81 : decode cX12_shelf 81 = .ok (.iload_n 3, 1) := by decide +kernel
theorem dX12_shelf_82 : decode cX12_shelf 82 = .ok (.i2l, 1) := by decide +kernel
theorem dX12_shelf_83 : decode cX12_shelf 83 = .ok (.lastore, 1) := by decide +kernel
theorem dX12_shelf_84 : decode cX12_shelf 84 = .ok (.iconst 0, 1) := by decide +kernel
theorem dX12_shelf_85 : decode cX12_shelf 85 = .ok (.istore 4, 2) := by decide +kernel
theorem dX12_shelf_87 : decode cX12_shelf 87 = .ok (.iload 4, 2) := by decide +kernel
theorem dX12_shelf_89 : decode cX12_shelf 89 = .ok (.bipush 12, 2) := by decide +kernel
theorem dX12_shelf_91 : decode cX12_shelf 91 = .ok (.if_icmp .ge 22, 3) := by decide +kernel
theorem dX12_shelf_94 : decode cX12_shelf 94 = .ok (.aload_n 0, 1) := by decide +kernel
theorem dX12_shelf_95 : decode cX12_shelf 95 = .ok (.getfield 20, 3) := by decide +kernel
theorem dX12_shelf_98 : decode cX12_shelf 98 = .ok (.bipush 12, 2) := by decide +kernel
theorem dX12_shelf_100 : decode cX12_shelf 100 = .ok (.iload_n 1, 1) := by decide +kernel
theorem dX12_shelf_101 : decode cX12_shelf 101 = .ok (.imul, 1) := by decide +kernel
theorem dX12_shelf_102 : decode cX12_shelf 102 = .ok (.iload 4, 2) := by decide +kernel
theorem dX12_shelf_104 : decode cX12_shelf 104 = .ok (.iadd, 1) := by decide +kernel
theorem dX12_shelf_105 : decode cX12_shelf 105 = .ok (.lconst 0, 1) := by decide +kernel
theorem dX12_shelf_106 : decode cX12_shelf 106 = .ok (.lastore, 1) := by decide +kernel
theorem dX12_shelf_107 : decode cX12_shelf 107 = .ok (.iinc 4 1, 3) := by decide +kernel
theorem dX12_shelf_110 : decode cX12_shelf 110 = .ok (.goto (-23), 3) := by decide +kernel
theorem dX12_shelf_113 : decode cX12_shelf 113 = .ok (.iconst 1, 1) := by decide +kernel
theorem dX12_shelf_114 : decode cX12_shelf 114 = .ok (.ireturn, 1) := by decide +kernel
theorem dX12_item_0 : decode cX12_item 0 = .ok (.aload_n 0, 1) := by decide +kernel
theorem dX12_item_1 : decode cX12_item 1 = .ok (.iconst 0, 1) := by decide +kernel
theorem dX12_item_2 : decode cX12_item 2 = .ok (.putfield 99, 3) := by decide +kernel
theorem dX12_item_5 : decode cX12_item 5 = .ok (.iload_n 1, 1) := by decide +kernel
theorem dX12_item_6 : decode cX12_item 6 = .ok (.ifCond .lt 8, 3) := by decide +kernel
theorem dX12_item_9 : decode cX12_item 9 = .ok (.iload_n 1, 1) := by decide +kernel
theorem dX12_item_10 : decode cX12_item 10 = .ok (.iconst 5, 1) := by decide +kernel
theorem dX12_item_11 : decode cX12_item 11 = .ok (.if_icmp .le 5, 3) := by decide +kernel
theorem dX12_item_14 : decode cX12_item 14 = .ok (.iconst (-1), 1) := by decide +kernel
theorem dX12_item_15 : decode cX12_item 15 = .ok (.ireturn, 1) := by decide +kernel
theorem dX12_item_16 : decode cX12_item 16 = .ok (.aload_n 0, 1) := by decide +kernel
theorem dX12_item_17 : decode cX12_item 17 = .ok (.getfield 7, 3) := by decide +kernel
theorem dX12_item_20 : decode cX12_item 20 = .ok (.iload_n 1, 1) := by decide +kernel
theorem dX12_item_21 : decode cX12_item 21 = .ok (.iaload, 1) := by decide +kernel
theorem dX12_item_22 : decode cX12_item 22 = .ok (.ifCond .ne 6, 3) := by decide +kernel
theorem dX12_item_25 : decode cX12_item 25 = .ok (.bipush (-11), 2) := by decide +kernel
theorem dX12_item_27 : decode cX12_item 27 = .ok (.ireturn, 1) := by decide +kernel
theorem dX12_item_28 : decode cX12_item 28 = .ok (.aload_n 0, 1) := by decide +kernel
theorem dX12_item_29 : decode cX12_item 29 = .ok (.getfield 7, 3) := by decide +kernel
theorem dX12_item_32 : decode cX12_item 32 = .ok (.iload_n 1, 1) := by decide +kernel
theorem dX12_item_33 : decode cX12_item 33 = .ok (.iaload, 1) := by decide +kernel
theorem dX12_item_34 : decode cX12_item 34 = .ok (.iconst 3, 1) := by decide +kernel
theorem dX12_item_35 : decode cX12_item 35 = .ok (.if_icmp .ne 6, 3) := by decide +kernel
theorem dX12_item_38 : decode cX12_item 38 = .ok (.bipush (-15), 2) := by decide +kernel
theorem dX12_item_40 : decode cX12_item 40 = .ok (.ireturn, 1) := by decide +kernel
theorem dX12_item_41 : decode cX12_item 41 = .ok (.iload_n 2, 1) := by decide +kernel
theorem dX12_item_42 : decode cX12_item 42 = .ok (.ifCond .lt 13, 3) := by decide +kernel
theorem dX12_item_45 : decode cX12_item 45 = .ok (.iload_n 2, 1) := by decide +kernel
theorem dX12_item_46 : decode cX12_item 46 = .ok (.aload_n 0, 1) := by decide +kernel
theorem dX12_item_47 : decode cX12_item 47 = .ok (.getfield 13, 3) := by decide +kernel
theorem dX12_item_50 : decode cX12_item 50 = .ok (.iload_n 1, 1) := by decide +kernel
theorem dX12_item_51 : decode cX12_item 51 = .ok (.iaload, 1) := by decide +kernel
theorem dX12_item_52 : decode cX12_item 52 = .ok (.if_icmp .lt 6, 3) := by decide +kernel
theorem dX12_item_55 : decode cX12_item 55 = .ok (.bipush (-12), 2) := by decide +kernel
theorem dX12_item_57 : decode cX12_item 57 = .ok (.ireturn, 1) := by decide +kernel
theorem dX12_item_58 : decode cX12_item 58 = .ok (.aload_n 0, 1) := by decide +kernel
theorem dX12_item_59 : decode cX12_item 59 = .ok (.getfield 20, 3) := by decide +kernel
theorem dX12_item_62 : decode cX12_item 62 = .ok (.bipush 12, 2) := by decide +kernel
theorem dX12_item_64 : decode cX12_item 64 = .ok (.iload_n 1, 1) := by decide +kernel
theorem dX12_item_65 : decode cX12_item 65 = .ok (.imul, 1) := by decide +kernel
theorem dX12_item_66 : decode cX12_item 66 = .ok (.iload_n 2, 1) := by decide +kernel
theorem dX12_item_67 : decode cX12_item 67 = .ok (.iadd, 1) := by decide +kernel
theorem dX12_item_68 : decode cX12_item 68 = .ok (.aload_n 0, 1) := by decide +kernel
theorem dX12_item_69 : decode cX12_item 69 = .ok (.getfield 7, 3) := by decide +kernel
theorem dX12_item_72 : decode cX12_item 72 = .ok (.iload_n 1, 1) := by decide +kernel
theorem dX12_item_73 : decode cX12_item 73 = .ok (.iaload, 1) := by decide +kernel
theorem dX12_item_74 : decode cX12_item 74 = .ok (.iconst 2, 1) := by decide +kernel
theorem dX12_item_75 : decode cX12_item 75 = .ok (.if_icmp .ne 9, 3) := by decide +kernel
theorem dX12_item_78 : decode cX12_item 78 = .ok (.lload_n 3, 1) := by decide +kernel
theorem dX12_item_79 : decode cX12_item 79 = .ok (.l2i, 1) := by decide +kernel
theorem dX12_item_80 : decode cX12_item 80 = .ok (.i2l, 1) := by decide +kernel
theorem dX12_item_81 : decode cX12_item 81 = .ok (.goto 4, 3) := by decide +kernel
theorem dX12_item_84 : decode cX12_item 84 = .ok (.lload_n 3, 1) := by decide +kernel
theorem dX12_item_85 : decode cX12_item 85 = .ok (.lastore, 1) := by decide +kernel
theorem dX12_item_86 : decode cX12_item 86 = .ok (.iconst 1, 1) := by decide +kernel
theorem dX12_item_87 : decode cX12_item 87 = .ok (.ireturn, 1) := by decide +kernel
theorem dX12_box_0 : decode cX12_box 0 = .ok (.aload_n 0, 1) := by decide +kernel
theorem dX12_box_1 : decode cX12_box 1 = .ok (.iconst 0, 1) := by decide +kernel
theorem dX12_box_2 : decode cX12_box 2 = .ok (.putfield 99, 3) := by decide +kernel
theorem dX12_box_5 : decode cX12_box 5 = .ok (.iload_n 1, 1) := by decide +kernel
theorem dX12_box_6 : decode cX12_box 6 = .ok (.ifCond .lt 17, 3) := by decide +kernel
theorem dX12_box_9 : decode cX12_box 9 = .ok (.iload_n 1, 1) := by decide +kernel
theorem dX12_box_10 : decode cX12_box 10 = .ok (.iconst 2, 1) := by decide +kernel
theorem dX12_box_11 : decode cX12_box 11 = .ok (.if_icmp .gt 12, 3) := by decide +kernel
theorem dX12_box_14 : decode cX12_box 14 = .ok (.iload_n 2, 1) := by decide +kernel
theorem dX12_box_15 : decode cX12_box 15 = .ok (.ifCond .lt 8, 3) := by decide +kernel
theorem dX12_box_18 : decode cX12_box 18 = .ok (.iload_n 2, 1) := by decide +kernel
theorem dX12_box_19 : decode cX12_box 19 = .ok (.iconst 2, 1) := by decide +kernel
theorem dX12_box_20 : decode cX12_box 20 = .ok (.if_icmp .le 7, 3) := by decide +kernel
theorem dX12_box_23 : decode cX12_box 23 = .ok (.iconst (-1), 1) := by decide +kernel
theorem dX12_box_24 : decode cX12_box 24 = .ok (.goto 13, 3) := by decide +kernel
theorem dX12_box_27 : decode cX12_box 27 = .ok (.aload_n 0, 1) := by decide +kernel
theorem dX12_box_28 : decode cX12_box 28 = .ok (.getfield 23, 3) := by decide +kernel
theorem dX12_box_31 : decode cX12_box 31 = .ok (.iconst 3, 1) := by decide +kernel
theorem dX12_box_32 : decode cX12_box 32 = .ok (.iload_n 1, 1) := by decide +kernel
theorem dX12_box_33 : decode cX12_box 33 = .ok (.imul, 1) := by decide +kernel
theorem dX12_box_34 : decode cX12_box 34 = .ok (.iload_n 2, 1) := by decide +kernel
theorem dX12_box_35 : decode cX12_box 35 = .ok (.iadd, 1) := by decide +kernel
theorem dX12_box_36 : decode cX12_box 36 = .ok (.iaload, 1) := by decide +kernel
theorem dX12_box_37 : decode cX12_box 37 = .ok (.ireturn, 1) := by decide +kernel
theorem dX12_isFilter_0 : decode cX12_isFilter 0 = .ok (.iload_n 1, 1) := by decide +kernel
theorem dX12_isFilter_1 : decode cX12_isFilter 1 = .ok (.ifCond .lt 15, 3) := by decide +kernel
theorem dX12_isFilter_4 : decode cX12_isFilter 4 = .ok (.iload_n 1, 1) := by decide +kernel
theorem dX12_isFilter_5 : decode cX12_isFilter 5 = .ok (.aload_n 0, 1) := by decide +kernel
theorem dX12_isFilter_6 : decode cX12_isFilter 6 = .ok (.getfield 103, 3) := by decide +kernel
theorem dX12_isFilter_9 : decode cX12_isFilter 9 = .ok (.if_icmp .ge 7, 3) := by decide +kernel
theorem dX12_isFilter_12 : decode cX12_isFilter 12 = .ok (.iconst 1, 1) := by decide +kernel
theorem dX12_isFilter_13 : decode cX12_isFilter 13 = .ok (.goto 4, 3) := by decide +kernel
theorem dX12_isFilter_16 : decode cX12_isFilter 16 = .ok (.iconst 0, 1) := by decide +kernel
theorem dX12_isFilter_17 : decode cX12_isFilter 17 = .ok (.ireturn, 1) := by decide +kernel
theorem dX12_filter_0 : decode cX12_filter 0 = .ok (.aload_n 0, 1) := by decide +kernel
theorem dX12_filter_1 : decode cX12_filter 1 = .ok (.iconst 0, 1) := by decide +kernel
theorem dX12_filter_2 : decode cX12_filter 2 = .ok (.putfield 99, 3) := by decide +kernel
theorem dX12_filter_5 : decode cX12_filter 5 = .ok (.iload_n 1, 1) := by decide +kernel
theorem dX12_filter_6 : decode cX12_filter 6 = .ok (.ifCond .lt 9, 3) := by decide +kernel
theorem dX12_filter_9 : decode cX12_filter 9 = .ok (.iload_n 1, 1) := by decide +kernel
theorem dX12_filter_10 : decode cX12_filter 10 = .ok (.bipush 12, 2) := by decide +kernel
theorem dX12_filter_12 : decode cX12_filter 12 = .ok (.if_icmp .le 6, 3) := by decide +kernel
theorem dX12_filter_15 : decode cX12_filter 15 = .ok (.bipush (-2), 2) := by decide +kernel
theorem dX12_filter_17 : decode cX12_filter 17 = .ok (.ireturn, 1) := by decide +kernel
theorem dX12_filter_18 : decode cX12_filter 18 = .ok (.iload_n 1, 1) := by decide +kernel
theorem dX12_filter_19 : decode cX12_filter 19 = .ok (.iconst 3, 1) := by decide +kernel
theorem dX12_filter_20 : decode cX12_filter 20 = .ok (.if_icmp .eq 9, 3) := by decide +kernel
theorem dX12_filter_23 : decode cX12_filter 23 = .ok (.iload_n 1, 1) := by decide +kernel
theorem dX12_filter_24 : decode cX12_filter 24 = .ok (.bipush 12, 2) := by decide +kernel
theorem dX12_filter_26 : decode cX12_filter 26 = .ok (.if_icmp .ne 12, 3) := by decide +kernel
theorem dX12_filter_29 : decode cX12_filter 29 = .ok (.iload_n 2, 1) := by decide +kernel
theorem dX12_filter_30 : decode cX12_filter 30 = .ok (.ifCond .lt 22, 3) := by decide +kernel
theorem dX12_filter_33 : decode cX12_filter 33 = .ok (.iload_n 2, 1) := by decide +kernel
theorem dX12_filter_34 : decode cX12_filter 34 = .ok (.iconst 5, 1) := by decide +kernel
theorem dX12_filter_35 : decode cX12_filter 35 = .ok (.if_icmp .gt 17, 3) := by decide +kernel
theorem dX12_filter_38 : decode cX12_filter 38 = .ok (.iload_n 1, 1) := by decide +kernel
theorem dX12_filter_39 : decode cX12_filter 39 = .ok (.iconst 5, 1) := by decide +kernel
theorem dX12_filter_40 : decode cX12_filter 40 = .ok (.if_icmp .ne 15, 3) := by decide +kernel
theorem dX12_filter_43 : decode cX12_filter 43 = .ok (.iload_n 2, 1) := by decide +kernel
theorem dX12_filter_44 : decode cX12_filter 44 = .ok (.ifCond .lt 8, 3) := by decide +kernel
theorem dX12_filter_47 : decode cX12_filter 47 = .ok (.iload_n 2, 1) := by decide +kernel
theorem dX12_filter_48 : decode cX12_filter 48 = .ok (.iconst 2, 1) := by decide +kernel
theorem dX12_filter_49 : decode cX12_filter 49 = .ok (.if_icmp .le 6, 3) := by decide +kernel
theorem dX12_filter_52 : decode cX12_filter 52 = .ok (.bipush (-2), 2) := by decide +kernel
theorem dX12_filter_54 : decode cX12_filter 54 = .ok (.ireturn, 1) := by decide +kernel
theorem dX12_filter_55 : decode cX12_filter 55 = .ok (.iload_n 1, 1) := by decide +kernel
theorem dX12_filter_56 : decode cX12_filter 56 = .ok (.bipush 7, 2) := by decide +kernel
theorem dX12_filter_58 : decode cX12_filter 58 = .ok (.if_icmp .lt 13, 3) := by decide +kernel
theorem dX12_filter_61 : decode cX12_filter 61 = .ok (.iload_n 1, 1) := by decide +kernel
theorem dX12_filter_62 : decode cX12_filter 62 = .ok (.bipush 11, 2) := by decide +kernel
theorem dX12_filter_64 : decode cX12_filter 64 = .ok (.if_icmp .gt 7, 3) := by decide +kernel
theorem dX12_filter_67 : decode cX12_filter 67 = .ok (.iconst 1, 1) := by decide +kernel
theorem dX12_filter_68 : decode cX12_filter 68 = .ok (.goto 4, 3) := by decide +kernel
theorem dX12_filter_71 : decode cX12_filter 71 = .ok (.iconst 0, 1) := by decide +kernel
theorem dX12_filter_72 : decode cX12_filter 72 = .ok (.istore 6, 2) := by decide +kernel
theorem dX12_filter_74 : decode cX12_filter 74 = .ok (.iload_n 1, 1) := by decide +kernel
theorem dX12_filter_75 : decode cX12_filter 75 = .ok (.bipush 8, 2) := by decide +kernel
theorem dX12_filter_77 : decode cX12_filter 77 = .ok (.if_icmp .lt 13, 3) := by decide +kernel
theorem dX12_filter_80 : decode cX12_filter 80 = .ok (.iload_n 1, 1) := by decide +kernel
theorem dX12_filter_81 : decode cX12_filter 81 = .ok (.bipush 10, 2) := by decide +kernel
theorem dX12_filter_83 : decode cX12_filter 83 = .ok (.if_icmp .gt 7, 3) := by decide +kernel
theorem dX12_filter_86 : decode cX12_filter 86 = .ok (.iconst 1, 1) := by decide +kernel
theorem dX12_filter_87 : decode cX12_filter 87 = .ok (.goto 4, 3) := by decide +kernel
theorem dX12_filter_90 : decode cX12_filter 90 = .ok (.iconst 0, 1) := by decide +kernel
theorem dX12_filter_91 : decode cX12_filter 91 = .ok (.istore 7, 2) := by decide +kernel
theorem dX12_filter_93 : decode cX12_filter 93 = .ok (.iload 6, 2) := by decide +kernel
theorem dX12_filter_95 : decode cX12_filter 95 = .ok (.ifCond .eq 11, 3) := by decide +kernel
theorem dX12_filter_98 : decode cX12_filter 98 = .ok (.aload_n 0, 1) := by decide +kernel
theorem dX12_filter_99 : decode cX12_filter 99 = .ok (.iload_n 2, 1) := by decide +kernel
theorem dX12_filter_100 : decode cX12_filter 100 = .ok (.invokevirtual 106, 3) := by decide +kernel
theorem dX12_filter_103 : decode cX12_filter 103 = .ok (.ifCond .eq 16, 3) := by decide +kernel
theorem dX12_filter_106 : decode cX12_filter 106 = .ok (.iload 7, 2) := by decide +kernel
theorem dX12_filter_108 : decode cX12_filter 108 = .ok (.ifCond .eq 13, 3) := by decide +kernel
theorem dX12_filter_111 : decode cX12_filter 111 = .ok (.aload_n 0, 1) := by decide +kernel
theorem dX12_filter_112 : decode cX12_filter 112 = .ok (.iload_n 3, 1) := by decide +kernel
theorem dX12_filter_113 : decode cX12_filter 113 = .ok (.invokevirtual 106, 3) := by decide +kernel
theorem dX12_filter_116 : decode cX12_filter 116 = .ok (.ifCond .ne 5, 3) := by decide +kernel
theorem dX12_filter_119 : decode cX12_filter 119 = .ok (.iconst (-1), 1) := by decide +kernel
theorem dX12_filter_120 : decode cX12_filter 120 = .ok (.ireturn, 1) := by decide +kernel
theorem dX12_filter_121 : decode cX12_filter 121 = .ok (.iconst 1, 1) := by decide +kernel
theorem dX12_filter_122 : decode cX12_filter 122 = .ok (.istore 8, 2) := by decide +kernel
theorem dX12_filter_124 : decode cX12_filter 124 = .ok (.iload 6, 2) := by decide +kernel
theorem dX12_filter_126 : decode cX12_filter 126 = .ok (.ifCond .eq 13, 3) := by decide +kernel
theorem dX12_filter_129 : decode cX12_filter 129 = .ok (.aload_n 0, 1) := by decide +kernel
theorem dX12_filter_130 : decode cX12_filter 130 = .ok (.getfield 38, 3) := by decide +kernel
theorem dX12_filter_133 : decode cX12_filter 133 = .ok (.iload_n 2, 1) := by decide +kernel
theorem dX12_filter_134 : decode cX12_filter 134 = .ok (.iaload, 1) := by decide +kernel
theorem dX12_filter_135 : decode cX12_filter 135 = .ok (.iconst 1, 1) := by decide +kernel
theorem dX12_filter_136 : decode cX12_filter 136 = .ok (.iadd, 1) := by decide +kernel
theorem dX12_filter_137 : decode cX12_filter 137 = .ok (.istore 8, 2) := by decide +kernel
theorem dX12_filter_139 : decode cX12_filter 139 = .ok (.iload 7, 2) := by decide +kernel
theorem dX12_filter_141 : decode cX12_filter 141 = .ok (.ifCond .eq 26, 3) := by decide +kernel
theorem dX12_filter_144 : decode cX12_filter 144 = .ok (.aload_n 0, 1) := by decide +kernel
theorem dX12_filter_145 : decode cX12_filter 145 = .ok (.getfield 38, 3) := by decide +kernel
theorem dX12_filter_148 : decode cX12_filter 148 = .ok (.iload_n 3, 1) := by decide +kernel
theorem dX12_filter_149 : decode cX12_filter 149 = .ok (.iaload, 1) := by decide +kernel
theorem dX12_filter_150 : decode cX12_filter 150 = .ok (.iconst 1, 1) := by decide +kernel
theorem dX12_filter_151 : decode cX12_filter 151 = .ok (.iadd, 1) := by decide +kernel
theorem dX12_filter_152 : decode cX12_filter 152 = .ok (.iload 8, 2) := by decide +kernel
theorem dX12_filter_154 : decode cX12_filter 154 = .ok (.if_icmp .le 13, 3) := by decide +kernel
theorem dX12_filter_157 : decode cX12_filter 157 = .ok (.aload_n 0, 1) := by decide +kernel
theorem dX12_filter_158 : decode cX12_filter 158 = .ok (.getfield 38, 3) := by decide +kernel
theorem dX12_filter_161 : decode cX12_filter 161 = .ok (.iload_n 3, 1) := by decide +kernel
theorem dX12_filter_162 : decode cX12_filter 162 = .ok (.iaload, 1) := by decide +kernel
theorem dX12_filter_163 : decode cX12_filter 163 = .ok (.iconst 1, 1) := by decide +kernel
theorem dX12_filter_164 : decode cX12_filter 164 = .ok (.iadd, 1) := by decide +kernel
theorem dX12_filter_165 : decode cX12_filter 165 = .ok (.istore 8, 2) := by decide +kernel
theorem dX12_filter_167 : decode cX12_filter 167 = .ok (.aload_n 0, 1) := by decide +kernel
theorem dX12_filter_168 : decode cX12_filter 168 = .ok (.getfield 103, 3) := by decide +kernel
theorem dX12_filter_171 : decode cX12_filter 171 = .ok (.bipush 20, 2) := by decide +kernel
theorem dX12_filter_173 : decode cX12_filter 173 = .ok (.if_icmp .eq 10, 3) := by decide +kernel
theorem dX12_filter_176 : decode cX12_filter 176 = .ok (.iload 8, 2) := by decide +kernel
theorem dX12_filter_178 : decode cX12_filter 178 = .ok (.bipush 6, 2) := by decide +kernel
theorem dX12_filter_180 : decode cX12_filter 180 = .ok (.if_icmp .le 6, 3) := by decide +kernel
theorem dX12_filter_183 : decode cX12_filter 183 = .ok (.bipush (-3), 2) := by decide +kernel
theorem dX12_filter_185 : decode cX12_filter 185 = .ok (.ireturn, 1) := by decide +kernel
theorem dX12_filter_186 : decode cX12_filter 186 = .ok (.aload_n 0, 1) := by decide +kernel
theorem dX12_filter_187 : decode cX12_filter 187 = .ok (.getfield 26, 3) := by decide +kernel
theorem dX12_filter_190 : decode cX12_filter 190 = .ok (.aload_n 0, 1) := by decide +kernel
theorem dX12_filter_191 : decode cX12_filter 191 = .ok (.getfield 103, 3) := by decide +kernel
theorem dX12_filter_194 : decode cX12_filter 194 = .ok (.iload_n 1, 1) := by decide +kernel
theorem dX12_filter_195 : decode cX12_filter 195 = .ok (.iastore, 1) := by decide +kernel
theorem dX12_filter_196 : decode cX12_filter 196 = .ok (.aload_n 0, 1) := by decide +kernel
theorem dX12_filter_197 : decode cX12_filter 197 = .ok (.getfield 29, 3) := by decide +kernel
theorem dX12_filter_200 : decode cX12_filter 200 = .ok (.aload_n 0, 1) := by decide +kernel
theorem dX12_filter_201 : decode cX12_filter 201 = .ok (.getfield 103, 3) := by decide +kernel
theorem dX12_filter_204 : decode cX12_filter 204 = .ok (.iload_n 2, 1) := by decide +kernel
theorem dX12_filter_205 : decode cX12_filter 205 = .ok (.iastore, 1) := by decide +kernel
theorem dX12_filter_206 : decode cX12_filter 206 = .ok (.aload_n 0, 1) := by decide +kernel
theorem dX12_filter_207 : decode cX12_filter 207 = .ok (.getfield 32, 3) := by decide +kernel
theorem dX12_filter_210 : decode cX12_filter 210 = .ok (.aload_n 0, 1) := by decide +kernel
theorem dX12_filter_211 : decode cX12_filter 211 = .ok (.getfield 103, 3) := by decide +kernel
theorem dX12_filter_214 : decode cX12_filter 214 = .ok (.iload_n 3, 1) := by decide +kernel
theorem dX12_filter_215 : decode cX12_filter 215 = .ok (.iastore, 1) := by decide +kernel
theorem dX12_filter_216 : decode cX12_filter 216 = .ok (.aload_n 0, 1) := by decide +kernel
theorem dX12_filter_217 : decode cX12_filter 217 = .ok (.getfield 35, 3) := by decide +kernel
theorem dX12_filter_220 : decode cX12_filter 220 = .ok (.aload_n 0, 1) := by decide +kernel
theorem dX12_filter_221 : decode cX12_filter 221 = .ok (.getfield 103, 3) := by decide +kernel
theorem dX12_filter_224 : decode cX12_filter 224 = .ok (.lload 4, 2) := by decide +kernel
theorem dX12_filter_226 : decode cX12_filter 226 = .ok (.lastore, 1) := by decide +kernel
theorem dX12_filter_227 : decode cX12_filter 227 = .ok (.aload_n 0, 1) := by decide +kernel
theorem dX12_filter_228 : decode cX12_filter 228 = .ok (.getfield 38, 3) := by decide +kernel
theorem dX12_filter_231 : decode cX12_filter 231 = .ok (.aload_n 0, 1) := by decide +kernel
theorem dX12_filter_232 : decode cX12_filter 232 = .ok (.getfield 103, 3) := by decide +kernel
theorem dX12_filter_235 : decode cX12_filter 235 = .ok (.iload 8, 2) := by decide +kernel
theorem dX12_filter_237 : decode cX12_filter 237 = .ok (.iastore, 1) := by decide +kernel
theorem dX12_filter_238 : decode cX12_filter 238 = .ok (.aload_n 0, 1) := by decide +kernel
theorem dX12_filter_239 : decode cX12_filter 239 = .ok (.getfield 41, 3) := by decide +kernel
theorem dX12_filter_242 : decode cX12_filter 242 = .ok (.aload_n 0, 1) := by decide +kernel
theorem dX12_filter_243 : decode cX12_filter 243 = .ok (.getfield 103, 3) := by decide +kernel
theorem dX12_filter_246 : decode cX12_filter 246 = .ok (.iconst 0, 1) := by decide +kernel
theorem dX12_filter_247 : decode cX12_filter 247 = .ok (.iastore, 1) := by decide +kernel
theorem dX12_filter_248 : decode cX12_filter 248 = .ok (.aload_n 0, 1) := by decide +kernel
theorem dX12_filter_249 : decode cX12_filter 249 = .ok (.dup, 1) := by decide +kernel
theorem dX12_filter_250 : decode cX12_filter 250 = .ok (.getfield 103, 3) := by decide +kernel
theorem dX12_filter_253 : decode cX12_filter 253 = .ok (.iconst 1, 1) := by decide +kernel
theorem dX12_filter_254 : decode cX12_filter 254 = .ok (.iadd, 1) := by decide +kernel
theorem dX12_filter_255 : decode cX12_filter 255 = .ok (.putfield 103, 3) := by decide +kernel
theorem dX12_filter_258 : decode cX12_filter 258 = .ok (.aload_n 0, 1) := by decide +kernel
theorem dX12_filter_259 : decode cX12_filter 259 = .ok (.getfield 103, 3) := by decide +kernel
theorem dX12_filter_262 : decode cX12_filter 262 = .ok (.iconst 1, 1) := by decide +kernel
theorem dX12_filter_263 : decode cX12_filter 263 = .ok (.isub, 1) := by decide +kernel
theorem dX12_filter_264 : decode cX12_filter 264 = .ok (.ireturn, 1) := by decide +kernel
theorem dX12_fails_0 : decode cX12_fails 0 = .ok (.aload_n 0, 1) := by decide +kernel
theorem dX12_fails_1 : decode cX12_fails 1 = .ok (.getfield 110, 3) := by decide +kernel
theorem dX12_fails_4 : decode cX12_fails 4 = .ok (.bipush 20, 2) := by decide +kernel
theorem dX12_fails_6 : decode cX12_fails 6 = .ok (.if_icmp .ne 12, 3) := by decide +kernel
theorem dX12_fails_9 : decode cX12_fails 9 = .ok (.aload_n 0, 1) := by decide +kernel
theorem dX12_fails_10 : decode cX12_fails 10 = .ok (.bipush 8, 2) := by decide +kernel
theorem dX12_fails_12 : decode cX12_fails 12 = .ok (.putfield 113, 3) := by decide +kernel
theorem dX12_fails_15 : decode cX12_fails 15 = .ok (.goto 18, 3) := by decide +kernel
theorem dX12_fails_18 : decode cX12_fails 18 = .ok (.aload_n 0, 1) := by decide +kernel
theorem dX12_fails_19 : decode cX12_fails 19 = .ok (.dup, 1) := by decide +kernel
theorem dX12_fails_20 : decode cX12_fails 20 = .ok (.getfield 110, 3) := by decide +kernel
theorem dX12_fails_23 : decode cX12_fails 23 = .ok (.iconst 1, 1) := by decide +kernel
theorem dX12_fails_24 : decode cX12_fails 24 = .ok (.iadd, 1) := by decide +kernel
theorem dX12_fails_25 : decode cX12_fails 25 = .ok (.putfield 110, 3) := by decide +kernel
theorem dX12_fails_28 : decode cX12_fails 28 = .ok (.aload_n 0, 1) := by decide +kernel
theorem dX12_fails_29 : decode cX12_fails 29 = .ok (.iload_n 1, 1) := by decide +kernel
theorem dX12_fails_30 : decode cX12_fails 30 = .ok (.putfield 113, 3) := by decide +kernel
theorem dX12_fails_33 : decode cX12_fails 33 = .ok (.aload_n 0, 1) := by decide +kernel
theorem dX12_fails_34 : decode cX12_fails 34 = .ok (.iload_n 2, 1) := by decide +kernel
theorem dX12_fails_35 : decode cX12_fails 35 = .ok (.putfield 116, 3) := by decide +kernel
theorem dX12_fails_38 : decode cX12_fails 38 = .ok (.iconst 0, 1) := by decide +kernel
theorem dX12_fails_39 : decode cX12_fails 39 = .ok (.ireturn, 1) := by decide +kernel
theorem dX12_passes_0 : decode cX12_passes 0 = .ok (.aload_n 0, 1) := by decide +kernel
theorem dX12_passes_1 : decode cX12_passes 1 = .ok (.getfield 29, 3) := by decide +kernel
theorem dX12_passes_4 : decode cX12_passes 4 = .ok (.iload_n 1, 1) := by decide +kernel
theorem dX12_passes_5 : decode cX12_passes 5 = .ok (.iaload, 1) := by decide +kernel
theorem dX12_passes_6 : decode cX12_passes 6 = .ok (.istore 4, 2) := by decide +kernel
theorem dX12_passes_8 : decode cX12_passes 8 = .ok (.aload_n 0, 1) := by decide +kernel
theorem dX12_passes_9 : decode cX12_passes 9 = .ok (.getfield 35, 3) := by decide +kernel
theorem dX12_passes_12 : decode cX12_passes 12 = .ok (.iload_n 1, 1) := by decide +kernel
theorem dX12_passes_13 : decode cX12_passes 13 = .ok (.laload, 1) := by decide +kernel
theorem dX12_passes_14 : decode cX12_passes 14 = .ok (.lstore 5, 2) := by decide +kernel
theorem dX12_passes_16 : decode cX12_passes 16 = .ok (.aload_n 0, 1) := by decide +kernel
theorem dX12_passes_17 : decode cX12_passes 17 = .ok (.getfield 26, 3) := by decide +kernel
theorem dX12_passes_20 : decode cX12_passes 20 = .ok (.iload_n 1, 1) := by decide +kernel
theorem dX12_passes_21 : decode cX12_passes 21 = .ok (.iaload, 1) := by decide +kernel
theorem dX12_passes_22 : decode cX12_passes 22 = .ok (.tableswitch 522 0 11 #[62, 75, 131, 176, 275, 320, 331, 350, 377, 418, 459, 504], 62) := by decide +kernel
theorem dX12_passes_84 : decode cX12_passes 84 = .ok (.lload_n 2, 1) := by decide +kernel
theorem dX12_passes_85 : decode cX12_passes 85 = .ok (.lload 5, 2) := by decide +kernel
theorem dX12_passes_87 : decode cX12_passes 87 = .ok (.lcmp, 1) := by decide +kernel
theorem dX12_passes_88 : decode cX12_passes 88 = .ok (.ifCond .ge 7, 3) := by decide +kernel
theorem dX12_passes_91 : decode cX12_passes 91 = .ok (.iconst 1, 1) := by decide +kernel
theorem dX12_passes_92 : decode cX12_passes 92 = .ok (.goto 4, 3) := by decide +kernel
theorem dX12_passes_95 : decode cX12_passes 95 = .ok (.iconst 0, 1) := by decide +kernel
theorem dX12_passes_96 : decode cX12_passes 96 = .ok (.ireturn, 1) := by decide +kernel
theorem dX12_passes_97 : decode cX12_passes 97 = .ok (.lload 5, 2) := by decide +kernel
theorem dX12_passes_99 : decode cX12_passes 99 = .ok (.lconst 0, 1) := by decide +kernel
theorem dX12_passes_100 : decode cX12_passes 100 = .ok (.lcmp, 1) := by decide +kernel
theorem dX12_passes_101 : decode cX12_passes 101 = .ok (.ifCond .ne 13, 3) := by decide +kernel
theorem dX12_passes_104 : decode cX12_passes 104 = .ok (.aload_n 0, 1) := by decide +kernel
theorem dX12_passes_105 : decode cX12_passes 105 = .ok (.bipush 6, 2) := by decide +kernel
theorem dX12_passes_107 : decode cX12_passes 107 = .ok (.iload_n 1, 1) := by decide +kernel
theorem dX12_passes_108 : decode cX12_passes 108 = .ok (.invokevirtual 119, 3) := by decide +kernel
theorem dX12_passes_111 : decode cX12_passes 111 = .ok (.goto 41, 3) := by decide +kernel
theorem dX12_passes_114 : decode cX12_passes 114 = .ok (.lload 5, 2) := by decide +kernel
theorem dX12_passes_116 : decode cX12_passes 116 = .ok (.ldc2_w 123, 3) := by decide +kernel
theorem dX12_passes_119 : decode cX12_passes 119 = .ok (.lcmp, 1) := by decide +kernel
theorem dX12_passes_120 : decode cX12_passes 120 = .ok (.ifCond .ne 16, 3) := by decide +kernel
theorem dX12_passes_123 : decode cX12_passes 123 = .ok (.iload 4, 2) := by decide +kernel
theorem dX12_passes_125 : decode cX12_passes 125 = .ok (.ifCond .ne 7, 3) := by decide +kernel
theorem dX12_passes_128 : decode cX12_passes 128 = .ok (.iconst 1, 1) := by decide +kernel
theorem dX12_passes_129 : decode cX12_passes 129 = .ok (.goto 23, 3) := by decide +kernel
theorem dX12_passes_132 : decode cX12_passes 132 = .ok (.iconst 0, 1) := by decide +kernel
theorem dX12_passes_133 : decode cX12_passes 133 = .ok (.goto 19, 3) := by decide +kernel
theorem dX12_passes_136 : decode cX12_passes 136 = .ok (.lload_n 2, 1) := by decide +kernel
theorem dX12_passes_137 : decode cX12_passes 137 = .ok (.lload 5, 2) := by decide +kernel
theorem dX12_passes_139 : decode cX12_passes 139 = .ok (.lrem, 1) := by decide +kernel
theorem dX12_passes_140 : decode cX12_passes 140 = .ok (.iload 4, 2) := by decide +kernel
theorem dX12_passes_142 : decode cX12_passes 142 = .ok (.i2l, 1) := by decide +kernel
theorem dX12_passes_143 : decode cX12_passes 143 = .ok (.lcmp, 1) := by decide +kernel
theorem dX12_passes_144 : decode cX12_passes 144 = .ok (.ifCond .ne 7, 3) := by decide +kernel
theorem dX12_passes_147 : decode cX12_passes 147 = .ok (.iconst 1, 1) := by decide +kernel
theorem dX12_passes_148 : decode cX12_passes 148 = .ok (.goto 4, 3) := by decide +kernel
theorem dX12_passes_151 : decode cX12_passes 151 = .ok (.iconst 0, 1) := by decide +kernel
theorem dX12_passes_152 : decode cX12_passes 152 = .ok (.ireturn, 1) := by decide +kernel
theorem dX12_passes_153 : decode cX12_passes 153 = .ok (.lload_n 2, 1) := by decide +kernel
theorem dX12_passes_154 : decode cX12_passes 154 = .ok (.lconst 0, 1) := by decide +kernel
theorem dX12_passes_155 : decode cX12_passes 155 = .ok (.lcmp, 1) := by decide +kernel
theorem dX12_passes_156 : decode cX12_passes 156 = .ok (.ifCond .ne 11, 3) := by decide +kernel
theorem dX12_passes_159 : decode cX12_passes 159 = .ok (.aload_n 0, 1) := by decide +kernel
theorem dX12_passes_160 : decode cX12_passes 160 = .ok (.bipush 6, 2) := by decide +kernel
theorem dX12_passes_162 : decode cX12_passes 162 = .ok (.iload_n 1, 1) := by decide +kernel
theorem dX12_passes_163 : decode cX12_passes 163 = .ok (.invokevirtual 119, 3) := by decide +kernel
theorem dX12_passes_166 : decode cX12_passes 166 = .ok (.ireturn, 1) := by decide +kernel
theorem dX12_passes_167 : decode cX12_passes 167 = .ok (.lload_n 2, 1) := by decide +kernel
theorem dX12_passes_168 : decode cX12_passes 168 = .ok (.ldc2_w 123, 3) := by decide +kernel
theorem dX12_passes_171 : decode cX12_passes 171 = .ok (.lcmp, 1) := by decide +kernel
theorem dX12_passes_172 : decode cX12_passes 172 = .ok (.ifCond .ne 9, 3) := by decide +kernel
theorem dX12_passes_175 : decode cX12_passes 175 = .ok (.lload 5, 2) := by decide +kernel
theorem dX12_passes_177 : decode cX12_passes 177 = .ok (.lneg, 1) := by decide +kernel
theorem dX12_passes_178 : decode cX12_passes 178 = .ok (.goto 7, 3) := by decide +kernel
theorem dX12_passes_181 : decode cX12_passes 181 = .ok (.lload 5, 2) := by decide +kernel
theorem dX12_passes_183 : decode cX12_passes 183 = .ok (.lload_n 2, 1) := by decide +kernel
theorem dX12_passes_184 : decode cX12_passes 184 = .ok (.ldiv, 1) := by decide +kernel
theorem dX12_passes_185 : decode cX12_passes 185 = .ok (.iload 4, 2) := by decide +kernel
theorem dX12_passes_187 : decode cX12_passes 187 = .ok (.i2l, 1) := by decide +kernel
theorem dX12_passes_188 : decode cX12_passes 188 = .ok (.lcmp, 1) := by decide +kernel
theorem dX12_passes_189 : decode cX12_passes 189 = .ok (.ifCond .le 7, 3) := by decide +kernel
theorem dX12_passes_192 : decode cX12_passes 192 = .ok (.iconst 1, 1) := by decide +kernel
theorem dX12_passes_193 : decode cX12_passes 193 = .ok (.goto 4, 3) := by decide +kernel
theorem dX12_passes_196 : decode cX12_passes 196 = .ok (.iconst 0, 1) := by decide +kernel
theorem dX12_passes_197 : decode cX12_passes 197 = .ok (.ireturn, 1) := by decide +kernel
theorem dX12_passes_198 : decode cX12_passes 198 = .ok (.aload_n 0, 1) := by decide +kernel
theorem dX12_passes_199 : decode cX12_passes 199 = .ok (.getfield 7, 3) := by decide +kernel
theorem dX12_passes_202 : decode cX12_passes 202 = .ok (.iload 4, 2) := by decide +kernel
theorem dX12_passes_204 : decode cX12_passes 204 = .ok (.iaload, 1) := by decide +kernel
theorem dX12_passes_205 : decode cX12_passes 205 = .ok (.iconst 2, 1) := by decide +kernel
theorem dX12_passes_206 : decode cX12_passes 206 = .ok (.if_icmp .eq 14, 3) := by decide +kernel
theorem dX12_passes_209 : decode cX12_passes 209 = .ok (.aload_n 0, 1) := by decide +kernel
theorem dX12_passes_210 : decode cX12_passes 210 = .ok (.getfield 7, 3) := by decide +kernel
theorem dX12_passes_213 : decode cX12_passes 213 = .ok (.iload 4, 2) := by decide +kernel
theorem dX12_passes_215 : decode cX12_passes 215 = .ok (.iaload, 1) := by decide +kernel
theorem dX12_passes_216 : decode cX12_passes 216 = .ok (.iconst 3, 1) := by decide +kernel
theorem dX12_passes_217 : decode cX12_passes 217 = .ok (.if_icmp .ne 10, 3) := by decide +kernel
theorem dX12_passes_220 : decode cX12_passes 220 = .ok (.aload_n 0, 1) := by decide +kernel
theorem dX12_passes_221 : decode cX12_passes 221 = .ok (.iconst 5, 1) := by decide +kernel
theorem dX12_passes_222 : decode cX12_passes 222 = .ok (.iload_n 1, 1) := by decide +kernel
theorem dX12_passes_223 : decode cX12_passes 223 = .ok (.invokevirtual 119, 3) := by decide +kernel
theorem dX12_passes_226 : decode cX12_passes 226 = .ok (.ireturn, 1) := by decide +kernel
theorem dX12_passes_227 : decode cX12_passes 227 = .ok (.aload_n 0, 1) := by decide +kernel
theorem dX12_passes_228 : decode cX12_passes 228 = .ok (.getfield 7, 3) := by decide +kernel
theorem dX12_passes_231 : decode cX12_passes 231 = .ok (.iload 4, 2) := by decide +kernel
theorem dX12_passes_233 : decode cX12_passes 233 = .ok (.iaload, 1) := by decide +kernel
theorem dX12_passes_234 : decode cX12_passes 234 = .ok (.ifCond .ne 10, 3) := by decide +kernel
theorem dX12_passes_237 : decode cX12_passes 237 = .ok (.aload_n 0, 1) := by decide +kernel
theorem dX12_passes_238 : decode cX12_passes 238 = .ok (.iconst 1, 1) := by decide +kernel
theorem dX12_passes_239 : decode cX12_passes 239 = .ok (.iload_n 1, 1) := by decide +kernel
theorem dX12_passes_240 : decode cX12_passes 240 = .ok (.invokevirtual 119, 3) := by decide +kernel
theorem dX12_passes_243 : decode cX12_passes 243 = .ok (.ireturn, 1) := by decide +kernel
theorem dX12_passes_244 : decode cX12_passes 244 = .ok (.lload_n 2, 1) := by decide +kernel
theorem dX12_passes_245 : decode cX12_passes 245 = .ok (.lconst 0, 1) := by decide +kernel
theorem dX12_passes_246 : decode cX12_passes 246 = .ok (.lcmp, 1) := by decide +kernel
theorem dX12_passes_247 : decode cX12_passes 247 = .ok (.ifCond .lt 16, 3) := by decide +kernel
theorem dX12_passes_250 : decode cX12_passes 250 = .ok (.lload_n 2, 1) := by decide +kernel
theorem dX12_passes_251 : decode cX12_passes 251 = .ok (.aload_n 0, 1) := by decide +kernel
theorem dX12_passes_252 : decode cX12_passes 252 = .ok (.getfield 13, 3) := by decide +kernel
theorem dX12_passes_255 : decode cX12_passes 255 = .ok (.iload 4, 2) := by decide +kernel
theorem dX12_passes_257 : decode cX12_passes 257 = .ok (.iaload, 1) := by decide +kernel
theorem dX12_passes_258 : decode cX12_passes 258 = .ok (.i2l, 1) := by decide +kernel
theorem dX12_passes_259 : decode cX12_passes 259 = .ok (.lcmp, 1) := by decide +kernel
theorem dX12_passes_260 : decode cX12_passes 260 = .ok (.ifCond .lt 12, 3) := by decide +kernel
theorem dX12_passes_263 : decode cX12_passes 263 = .ok (.aload_n 0, 1) := by decide +kernel
theorem dX12_passes_264 : decode cX12_passes 264 = .ok (.iconst 2, 1) := by decide +kernel
theorem dX12_passes_265 : decode cX12_passes 265 = .ok (.iload_n 1, 1) := by decide +kernel
theorem dX12_passes_266 : decode cX12_passes 266 = .ok (.invokevirtual 119, 3) := by decide +kernel
theorem dX12_passes_269 : decode cX12_passes 269 = .ok (.goto 27, 3) := by decide +kernel
theorem dX12_passes_272 : decode cX12_passes 272 = .ok (.aload_n 0, 1) := by decide +kernel
theorem dX12_passes_273 : decode cX12_passes 273 = .ok (.getfield 20, 3) := by decide +kernel
theorem dX12_passes_276 : decode cX12_passes 276 = .ok (.bipush 12, 2) := by decide +kernel
theorem dX12_passes_278 : decode cX12_passes 278 = .ok (.iload 4, 2) := by decide +kernel
theorem dX12_passes_280 : decode cX12_passes 280 = .ok (.imul, 1) := by decide +kernel
theorem dX12_passes_281 : decode cX12_passes 281 = .ok (.lload_n 2, 1) := by decide +kernel
theorem dX12_passes_282 : decode cX12_passes 282 = .ok (.l2i, 1) := by decide +kernel
theorem dX12_passes_283 : decode cX12_passes 283 = .ok (.iadd, 1) := by decide +kernel
theorem dX12_passes_284 : decode cX12_passes 284 = .ok (.laload, 1) := by decide +kernel
theorem dX12_passes_285 : decode cX12_passes 285 = .ok (.lload 5, 2) := by decide +kernel
theorem dX12_passes_287 : decode cX12_passes 287 = .ok (.lcmp, 1) := by decide +kernel
theorem dX12_passes_288 : decode cX12_passes 288 = .ok (.ifCond .le 7, 3) := by decide +kernel
theorem dX12_passes_291 : decode cX12_passes 291 = .ok (.iconst 1, 1) := by decide +kernel
theorem dX12_passes_292 : decode cX12_passes 292 = .ok (.goto 4, 3) := by decide +kernel
theorem dX12_passes_295 : decode cX12_passes 295 = .ok (.iconst 0, 1) := by decide +kernel
theorem dX12_passes_296 : decode cX12_passes 296 = .ok (.ireturn, 1) := by decide +kernel
theorem dX12_passes_297 : decode cX12_passes 297 = .ok (.lload_n 2, 1) := by decide +kernel
theorem dX12_passes_298 : decode cX12_passes 298 = .ok (.ldc2_w 125, 3) := by decide +kernel
theorem dX12_passes_301 : decode cX12_passes 301 = .ok (.lcmp, 1) := by decide +kernel
theorem dX12_passes_302 : decode cX12_passes 302 = .ok (.ifCond .gt 9, 3) := by decide +kernel
theorem dX12_passes_305 : decode cX12_passes 305 = .ok (.lload_n 2, 1) := by decide +kernel
theorem dX12_passes_306 : decode cX12_passes 306 = .ok (.lconst 0, 1) := by decide +kernel
theorem dX12_passes_307 : decode cX12_passes 307 = .ok (.lcmp, 1) := by decide +kernel
theorem dX12_passes_308 : decode cX12_passes 308 = .ok (.ifCond .ge 21, 3) := by decide +kernel
theorem dX12_passes_311 : decode cX12_passes 311 = .ok (.aload_n 0, 1) := by decide +kernel
theorem dX12_passes_312 : decode cX12_passes 312 = .ok (.lload_n 2, 1) := by decide +kernel
theorem dX12_passes_313 : decode cX12_passes 313 = .ok (.lconst 0, 1) := by decide +kernel
theorem dX12_passes_314 : decode cX12_passes 314 = .ok (.lcmp, 1) := by decide +kernel
theorem dX12_passes_315 : decode cX12_passes 315 = .ok (.ifCond .ge 7, 3) := by decide +kernel
theorem dX12_passes_318 : decode cX12_passes 318 = .ok (.iconst 3, 1) := by decide +kernel
theorem dX12_passes_319 : decode cX12_passes 319 = .ok (.goto 5, 3) := by decide +kernel
theorem dX12_passes_322 : decode cX12_passes 322 = .ok (.bipush 7, 2) := by decide +kernel
theorem dX12_passes_324 : decode cX12_passes 324 = .ok (.iload_n 1, 1) := by decide +kernel
theorem dX12_passes_325 : decode cX12_passes 325 = .ok (.invokevirtual 119, 3) := by decide +kernel
theorem dX12_passes_328 : decode cX12_passes 328 = .ok (.ireturn, 1) := by decide +kernel
theorem dX12_passes_329 : decode cX12_passes 329 = .ok (.lload_n 2, 1) := by decide +kernel
theorem dX12_passes_330 : decode cX12_passes 330 = .ok (.lload 5, 2) := by decide +kernel
theorem dX12_passes_332 : decode cX12_passes 332 = .ok (.lcmp, 1) := by decide +kernel
theorem dX12_passes_333 : decode cX12_passes 333 = .ok (.ifCond .lt 7, 3) := by decide +kernel
theorem dX12_passes_336 : decode cX12_passes 336 = .ok (.iconst 1, 1) := by decide +kernel
theorem dX12_passes_337 : decode cX12_passes 337 = .ok (.goto 4, 3) := by decide +kernel
theorem dX12_passes_340 : decode cX12_passes 340 = .ok (.iconst 0, 1) := by decide +kernel
theorem dX12_passes_341 : decode cX12_passes 341 = .ok (.ireturn, 1) := by decide +kernel
theorem dX12_passes_342 : decode cX12_passes 342 = .ok (.aload_n 0, 1) := by decide +kernel
theorem dX12_passes_343 : decode cX12_passes 343 = .ok (.iload_n 1, 1) := by decide +kernel
theorem dX12_passes_344 : decode cX12_passes 344 = .ok (.iload 4, 2) := by decide +kernel
theorem dX12_passes_346 : decode cX12_passes 346 = .ok (.lload_n 2, 1) := by decide +kernel
theorem dX12_passes_347 : decode cX12_passes 347 = .ok (.lload 5, 2) := by decide +kernel
theorem dX12_passes_349 : decode cX12_passes 349 = .ok (.invokevirtual 127, 3) := by decide +kernel
theorem dX12_passes_352 : decode cX12_passes 352 = .ok (.ireturn, 1) := by decide +kernel
theorem dX12_passes_353 : decode cX12_passes 353 = .ok (.lload_n 2, 1) := by decide +kernel
theorem dX12_passes_354 : decode cX12_passes 354 = .ok (.lload 5, 2) := by decide +kernel
theorem dX12_passes_356 : decode cX12_passes 356 = .ok (.lcmp, 1) := by decide +kernel
theorem dX12_passes_357 : decode cX12_passes 357 = .ok (.ifCond .ne 13, 3) := by decide +kernel
theorem dX12_passes_360 : decode cX12_passes 360 = .ok (.aload_n 0, 1) := by decide +kernel
theorem dX12_passes_361 : decode cX12_passes 361 = .ok (.bipush 7, 2) := by decide +kernel
theorem dX12_passes_363 : decode cX12_passes 363 = .ok (.iload_n 1, 1) := by decide +kernel
theorem dX12_passes_364 : decode cX12_passes 364 = .ok (.invokevirtual 119, 3) := by decide +kernel
theorem dX12_passes_367 : decode cX12_passes 367 = .ok (.goto 4, 3) := by decide +kernel
theorem dX12_passes_370 : decode cX12_passes 370 = .ok (.iconst 1, 1) := by decide +kernel
theorem dX12_passes_371 : decode cX12_passes 371 = .ok (.ireturn, 1) := by decide +kernel
theorem dX12_passes_372 : decode cX12_passes 372 = .ok (.aload_n 0, 1) := by decide +kernel
theorem dX12_passes_373 : decode cX12_passes 373 = .ok (.iload 4, 2) := by decide +kernel
theorem dX12_passes_375 : decode cX12_passes 375 = .ok (.lload_n 2, 1) := by decide +kernel
theorem dX12_passes_376 : decode cX12_passes 376 = .ok (.invokevirtual 131, 3) := by decide +kernel
theorem dX12_passes_379 : decode cX12_passes 379 = .ok (.istore 7, 2) := by decide +kernel
theorem dX12_passes_381 : decode cX12_passes 381 = .ok (.aload_n 0, 1) := by decide +kernel
theorem dX12_passes_382 : decode cX12_passes 382 = .ok (.getfield 113, 3) := by decide +kernel
theorem dX12_passes_385 : decode cX12_passes 385 = .ok (.ifCond .ne 12, 3) := by decide +kernel
theorem dX12_passes_388 : decode cX12_passes 388 = .ok (.iload 7, 2) := by decide +kernel
theorem dX12_passes_390 : decode cX12_passes 390 = .ok (.ifCond .ne 7, 3) := by decide +kernel
theorem dX12_passes_393 : decode cX12_passes 393 = .ok (.iconst 1, 1) := by decide +kernel
theorem dX12_passes_394 : decode cX12_passes 394 = .ok (.goto 4, 3) := by decide +kernel
theorem dX12_passes_397 : decode cX12_passes 397 = .ok (.iconst 0, 1) := by decide +kernel
theorem dX12_passes_398 : decode cX12_passes 398 = .ok (.ireturn, 1) := by decide +kernel
theorem dX12_passes_399 : decode cX12_passes 399 = .ok (.aload_n 0, 1) := by decide +kernel
theorem dX12_passes_400 : decode cX12_passes 400 = .ok (.iload 4, 2) := by decide +kernel
theorem dX12_passes_402 : decode cX12_passes 402 = .ok (.lload_n 2, 1) := by decide +kernel
theorem dX12_passes_403 : decode cX12_passes 403 = .ok (.invokevirtual 131, 3) := by decide +kernel
theorem dX12_passes_406 : decode cX12_passes 406 = .ok (.istore 7, 2) := by decide +kernel
theorem dX12_passes_408 : decode cX12_passes 408 = .ok (.aload_n 0, 1) := by decide +kernel
theorem dX12_passes_409 : decode cX12_passes 409 = .ok (.getfield 113, 3) := by decide +kernel
theorem dX12_passes_412 : decode cX12_passes 412 = .ok (.ifCond .ne 26, 3) := by decide +kernel
theorem dX12_passes_415 : decode cX12_passes 415 = .ok (.iload 7, 2) := by decide +kernel
theorem dX12_passes_417 : decode cX12_passes 417 = .ok (.ifCond .eq 21, 3) := by decide +kernel
theorem dX12_passes_420 : decode cX12_passes 420 = .ok (.aload_n 0, 1) := by decide +kernel
theorem dX12_passes_421 : decode cX12_passes 421 = .ok (.aload_n 0, 1) := by decide +kernel
theorem dX12_passes_422 : decode cX12_passes 422 = .ok (.getfield 32, 3) := by decide +kernel
theorem dX12_passes_425 : decode cX12_passes 425 = .ok (.iload_n 1, 1) := by decide +kernel
theorem dX12_passes_426 : decode cX12_passes 426 = .ok (.iaload, 1) := by decide +kernel
theorem dX12_passes_427 : decode cX12_passes 427 = .ok (.lload_n 2, 1) := by decide +kernel
theorem dX12_passes_428 : decode cX12_passes 428 = .ok (.invokevirtual 131, 3) := by decide +kernel
theorem dX12_passes_431 : decode cX12_passes 431 = .ok (.ifCond .eq 7, 3) := by decide +kernel
theorem dX12_passes_434 : decode cX12_passes 434 = .ok (.iconst 1, 1) := by decide +kernel
theorem dX12_passes_435 : decode cX12_passes 435 = .ok (.goto 4, 3) := by decide +kernel
theorem dX12_passes_438 : decode cX12_passes 438 = .ok (.iconst 0, 1) := by decide +kernel
theorem dX12_passes_439 : decode cX12_passes 439 = .ok (.ireturn, 1) := by decide +kernel
theorem dX12_passes_440 : decode cX12_passes 440 = .ok (.aload_n 0, 1) := by decide +kernel
theorem dX12_passes_441 : decode cX12_passes 441 = .ok (.iload 4, 2) := by decide +kernel
theorem dX12_passes_443 : decode cX12_passes 443 = .ok (.lload_n 2, 1) := by decide +kernel
theorem dX12_passes_444 : decode cX12_passes 444 = .ok (.invokevirtual 131, 3) := by decide +kernel
theorem dX12_passes_447 : decode cX12_passes 447 = .ok (.istore 7, 2) := by decide +kernel
theorem dX12_passes_449 : decode cX12_passes 449 = .ok (.aload_n 0, 1) := by decide +kernel
theorem dX12_passes_450 : decode cX12_passes 450 = .ok (.getfield 113, 3) := by decide +kernel
theorem dX12_passes_453 : decode cX12_passes 453 = .ok (.ifCond .ne 26, 3) := by decide +kernel
theorem dX12_passes_456 : decode cX12_passes 456 = .ok (.iload 7, 2) := by decide +kernel
theorem dX12_passes_458 : decode cX12_passes 458 = .ok (.ifCond .ne 17, 3) := by decide +kernel
theorem dX12_passes_461 : decode cX12_passes 461 = .ok (.aload_n 0, 1) := by decide +kernel
theorem dX12_passes_462 : decode cX12_passes 462 = .ok (.aload_n 0, 1) := by decide +kernel
theorem dX12_passes_463 : decode cX12_passes 463 = .ok (.getfield 32, 3) := by decide +kernel
theorem dX12_passes_466 : decode cX12_passes 466 = .ok (.iload_n 1, 1) := by decide +kernel
theorem dX12_passes_467 : decode cX12_passes 467 = .ok (.iaload, 1) := by decide +kernel
theorem dX12_passes_468 : decode cX12_passes 468 = .ok (.lload_n 2, 1) := by decide +kernel
theorem dX12_passes_469 : decode cX12_passes 469 = .ok (.invokevirtual 131, 3) := by decide +kernel
theorem dX12_passes_472 : decode cX12_passes 472 = .ok (.ifCond .eq 7, 3) := by decide +kernel
theorem dX12_passes_475 : decode cX12_passes 475 = .ok (.iconst 1, 1) := by decide +kernel
theorem dX12_passes_476 : decode cX12_passes 476 = .ok (.goto 4, 3) := by decide +kernel
theorem dX12_passes_479 : decode cX12_passes 479 = .ok (.iconst 0, 1) := by decide +kernel
theorem dX12_passes_480 : decode cX12_passes 480 = .ok (.ireturn, 1) := by decide +kernel
theorem dX12_passes_481 : decode cX12_passes 481 = .ok (.aload_n 0, 1) := by decide +kernel
theorem dX12_passes_482 : decode cX12_passes 482 = .ok (.iload 4, 2) := by decide +kernel
theorem dX12_passes_484 : decode cX12_passes 484 = .ok (.lload_n 2, 1) := by decide +kernel
theorem dX12_passes_485 : decode cX12_passes 485 = .ok (.invokevirtual 131, 3) := by decide +kernel
theorem dX12_passes_488 : decode cX12_passes 488 = .ok (.istore 7, 2) := by decide +kernel
theorem dX12_passes_490 : decode cX12_passes 490 = .ok (.aload_n 0, 1) := by decide +kernel
theorem dX12_passes_491 : decode cX12_passes 491 = .ok (.getfield 113, 3) := by decide +kernel
theorem dX12_passes_494 : decode cX12_passes 494 = .ok (.ifCond .eq 12, 3) := by decide +kernel
theorem dX12_passes_497 : decode cX12_passes 497 = .ok (.aload_n 0, 1) := by decide +kernel
theorem dX12_passes_498 : decode cX12_passes 498 = .ok (.getfield 113, 3) := by decide +kernel
theorem dX12_passes_501 : decode cX12_passes 501 = .ok (.bipush 8, 2) := by decide +kernel
theorem dX12_passes_503 : decode cX12_passes 503 = .ok (.if_icmp .ne 6, 3) := by decide +kernel
theorem dX12_passes_506 : decode cX12_passes 506 = .ok (.iload 7, 2) := by decide +kernel
theorem dX12_passes_508 : decode cX12_passes 508 = .ok (.ireturn, 1) := by decide +kernel
theorem dX12_passes_509 : decode cX12_passes 509 = .ok (.aload_n 0, 1) := by decide +kernel
theorem dX12_passes_510 : decode cX12_passes 510 = .ok (.iconst 0, 1) := by decide +kernel
theorem dX12_passes_511 : decode cX12_passes 511 = .ok (.putfield 113, 3) := by decide +kernel
theorem dX12_passes_514 : decode cX12_passes 514 = .ok (.aload_n 0, 1) := by decide +kernel
theorem dX12_passes_515 : decode cX12_passes 515 = .ok (.aload_n 0, 1) := by decide +kernel
theorem dX12_passes_516 : decode cX12_passes 516 = .ok (.getfield 32, 3) := by decide +kernel
theorem dX12_passes_519 : decode cX12_passes 519 = .ok (.iload_n 1, 1) := by decide +kernel
theorem dX12_passes_520 : decode cX12_passes 520 = .ok (.iaload, 1) := by decide +kernel
theorem dX12_passes_521 : decode cX12_passes 521 = .ok (.lload_n 2, 1) := by decide +kernel
theorem dX12_passes_522 : decode cX12_passes 522 = .ok (.invokevirtual 131, 3) := by decide +kernel
theorem dX12_passes_525 : decode cX12_passes 525 = .ok (.ireturn, 1) := by decide +kernel
theorem dX12_passes_526 : decode cX12_passes 526 = .ok (.aload_n 0, 1) := by decide +kernel
theorem dX12_passes_527 : decode cX12_passes 527 = .ok (.getfield 41, 3) := by decide +kernel
theorem dX12_passes_530 : decode cX12_passes 530 = .ok (.iload_n 1, 1) := by decide +kernel
theorem dX12_passes_531 : decode cX12_passes 531 = .ok (.dup2, 1) := by decide +kernel
theorem dX12_passes_532 : decode cX12_passes 532 = .ok (.iaload, 1) := by decide +kernel
theorem dX12_passes_533 : decode cX12_passes 533 = .ok (.iconst 1, 1) := by decide +kernel
theorem dX12_passes_534 : decode cX12_passes 534 = .ok (.iadd, 1) := by decide +kernel
theorem dX12_passes_535 : decode cX12_passes 535 = .ok (.iastore, 1) := by decide +kernel
theorem dX12_passes_536 : decode cX12_passes 536 = .ok (.aload_n 0, 1) := by decide +kernel
theorem dX12_passes_537 : decode cX12_passes 537 = .ok (.iload 4, 2) := by decide +kernel
theorem dX12_passes_539 : decode cX12_passes 539 = .ok (.lload_n 2, 1) := by decide +kernel
theorem dX12_passes_540 : decode cX12_passes 540 = .ok (.invokevirtual 131, 3) := by decide +kernel
theorem dX12_passes_543 : decode cX12_passes 543 = .ok (.ireturn, 1) := by decide +kernel
theorem dX12_passes_544 : decode cX12_passes 544 = .ok (.aload_n 0, 1) := by decide +kernel
theorem dX12_passes_545 : decode cX12_passes 545 = .ok (.getfield 7, 3) := by decide +kernel
theorem dX12_passes_548 : decode cX12_passes 548 = .ok (.iload 4, 2) := by decide +kernel
theorem dX12_passes_550 : decode cX12_passes 550 = .ok (.iaload, 1) := by decide +kernel
theorem dX12_passes_551 : decode cX12_passes 551 = .ok (.iconst 3, 1) := by decide +kernel
theorem dX12_passes_552 : decode cX12_passes 552 = .ok (.if_icmp .eq 24, 3) := by decide +kernel
theorem dX12_passes_555 : decode cX12_passes 555 = .ok (.aload_n 0, 1) := by decide +kernel
theorem dX12_passes_556 : decode cX12_passes 556 = .ok (.aload_n 0, 1) := by decide +kernel
theorem dX12_passes_557 : decode cX12_passes 557 = .ok (.getfield 7, 3) := by decide +kernel
theorem dX12_passes_560 : decode cX12_passes 560 = .ok (.iload 4, 2) := by decide +kernel
theorem dX12_passes_562 : decode cX12_passes 562 = .ok (.iaload, 1) := by decide +kernel
theorem dX12_passes_563 : decode cX12_passes 563 = .ok (.ifCond .ne 7, 3) := by decide +kernel
theorem dX12_passes_566 : decode cX12_passes 566 = .ok (.iconst 1, 1) := by decide +kernel
theorem dX12_passes_567 : decode cX12_passes 567 = .ok (.goto 4, 3) := by decide +kernel
theorem dX12_passes_570 : decode cX12_passes 570 = .ok (.iconst 5, 1) := by decide +kernel
theorem dX12_passes_571 : decode cX12_passes 571 = .ok (.iload_n 1, 1) := by decide +kernel
theorem dX12_passes_572 : decode cX12_passes 572 = .ok (.invokevirtual 119, 3) := by decide +kernel
theorem dX12_passes_575 : decode cX12_passes 575 = .ok (.ireturn, 1) := by decide +kernel
theorem dX12_passes_576 : decode cX12_passes 576 = .ok (.lload_n 2, 1) := by decide +kernel
theorem dX12_passes_577 : decode cX12_passes 577 = .ok (.aload_n 0, 1) := by decide +kernel
theorem dX12_passes_578 : decode cX12_passes 578 = .ok (.getfield 16, 3) := by decide +kernel
theorem dX12_passes_581 : decode cX12_passes 581 = .ok (.iload 4, 2) := by decide +kernel
theorem dX12_passes_583 : decode cX12_passes 583 = .ok (.laload, 1) := by decide +kernel
theorem dX12_passes_584 : decode cX12_passes 584 = .ok (.lcmp, 1) := by decide +kernel
theorem dX12_passes_585 : decode cX12_passes 585 = .ok (.ifCond .le 7, 3) := by decide +kernel
theorem dX12_passes_588 : decode cX12_passes 588 = .ok (.iconst 1, 1) := by decide +kernel
theorem dX12_passes_589 : decode cX12_passes 589 = .ok (.goto 4, 3) := by decide +kernel
theorem dX12_passes_592 : decode cX12_passes 592 = .ok (.iconst 0, 1) := by decide +kernel
theorem dX12_passes_593 : decode cX12_passes 593 = .ok (.ireturn, 1) := by decide +kernel
theorem dX12_puts_0 : decode cX12_puts 0 = .ok (.lload_n 3, 1) := by decide +kernel
theorem dX12_puts_1 : decode cX12_puts 1 = .ok (.ldc2_w 135, 3) := by decide +kernel
theorem dX12_puts_4 : decode cX12_puts 4 = .ok (.lrem, 1) := by decide +kernel
theorem dX12_puts_5 : decode cX12_puts 5 = .ok (.l2i, 1) := by decide +kernel
theorem dX12_puts_6 : decode cX12_puts 6 = .ok (.istore 7, 2) := by decide +kernel
theorem dX12_puts_8 : decode cX12_puts 8 = .ok (.iload 7, 2) := by decide +kernel
theorem dX12_puts_10 : decode cX12_puts 10 = .ok (.ifCond .ne 7, 3) := by decide +kernel
theorem dX12_puts_13 : decode cX12_puts 13 = .ok (.iconst 2, 1) := by decide +kernel
theorem dX12_puts_14 : decode cX12_puts 14 = .ok (.goto 14, 3) := by decide +kernel
theorem dX12_puts_17 : decode cX12_puts 17 = .ok (.iload 7, 2) := by decide +kernel
theorem dX12_puts_19 : decode cX12_puts 19 = .ok (.iconst 1, 1) := by decide +kernel
theorem dX12_puts_20 : decode cX12_puts 20 = .ok (.if_icmp .ne 7, 3) := by decide +kernel
theorem dX12_puts_23 : decode cX12_puts 23 = .ok (.iconst 3, 1) := by decide +kernel
theorem dX12_puts_24 : decode cX12_puts 24 = .ok (.goto 4, 3) := by decide +kernel
theorem dX12_puts_27 : decode cX12_puts 27 = .ok (.iconst 1, 1) := by decide +kernel
theorem dX12_puts_28 : decode cX12_puts 28 = .ok (.istore 8, 2) := by decide +kernel
theorem dX12_puts_30 : decode cX12_puts 30 = .ok (.lload 5, 2) := by decide +kernel
theorem dX12_puts_32 : decode cX12_puts 32 = .ok (.ldc2_w 135, 3) := by decide +kernel
theorem dX12_puts_35 : decode cX12_puts 35 = .ok (.lrem, 1) := by decide +kernel
theorem dX12_puts_36 : decode cX12_puts 36 = .ok (.l2i, 1) := by decide +kernel
theorem dX12_puts_37 : decode cX12_puts 37 = .ok (.istore 9, 2) := by decide +kernel
theorem dX12_puts_39 : decode cX12_puts 39 = .ok (.iload 9, 2) := by decide +kernel
theorem dX12_puts_41 : decode cX12_puts 41 = .ok (.ifCond .ge 9, 3) := by decide +kernel
theorem dX12_puts_44 : decode cX12_puts 44 = .ok (.iload 9, 2) := by decide +kernel
theorem dX12_puts_46 : decode cX12_puts 46 = .ok (.ineg, 1) := by decide +kernel
theorem dX12_puts_47 : decode cX12_puts 47 = .ok (.goto 5, 3) := by decide +kernel
theorem dX12_puts_50 : decode cX12_puts 50 = .ok (.iload 9, 2) := by decide +kernel
theorem dX12_puts_52 : decode cX12_puts 52 = .ok (.istore 9, 2) := by decide +kernel
theorem dX12_puts_54 : decode cX12_puts 54 = .ok (.iload_n 2, 1) := by decide +kernel
theorem dX12_puts_55 : decode cX12_puts 55 = .ok (.ifCond .ne 9, 3) := by decide +kernel
theorem dX12_puts_58 : decode cX12_puts 58 = .ok (.iload 8, 2) := by decide +kernel
theorem dX12_puts_60 : decode cX12_puts 60 = .ok (.iconst 3, 1) := by decide +kernel
theorem dX12_puts_61 : decode cX12_puts 61 = .ok (.if_icmp .eq 14, 3) := by decide +kernel
theorem dX12_puts_64 : decode cX12_puts 64 = .ok (.iload_n 2, 1) := by decide +kernel
theorem dX12_puts_65 : decode cX12_puts 65 = .ok (.iconst 1, 1) := by decide +kernel
theorem dX12_puts_66 : decode cX12_puts 66 = .ok (.if_icmp .ne 16, 3) := by decide +kernel
theorem dX12_puts_69 : decode cX12_puts 69 = .ok (.iload 8, 2) := by decide +kernel
theorem dX12_puts_71 : decode cX12_puts 71 = .ok (.iconst 2, 1) := by decide +kernel
theorem dX12_puts_72 : decode cX12_puts 72 = .ok (.if_icmp .eq 10, 3) := by decide +kernel
theorem dX12_puts_75 : decode cX12_puts 75 = .ok (.aload_n 0, 1) := by decide +kernel
theorem dX12_puts_76 : decode cX12_puts 76 = .ok (.iconst 4, 1) := by decide +kernel
theorem dX12_puts_77 : decode cX12_puts 77 = .ok (.iload_n 1, 1) := by decide +kernel
theorem dX12_puts_78 : decode cX12_puts 78 = .ok (.invokevirtual 119, 3) := by decide +kernel
theorem dX12_puts_81 : decode cX12_puts 81 = .ok (.ireturn, 1) := by decide +kernel
theorem dX12_puts_82 : decode cX12_puts 82 = .ok (.aload_n 0, 1) := by decide +kernel
theorem dX12_puts_83 : decode cX12_puts 83 = .ok (.getfield 23, 3) := by decide +kernel
theorem dX12_puts_86 : decode cX12_puts 86 = .ok (.iconst 3, 1) := by decide +kernel
theorem dX12_puts_87 : decode cX12_puts 87 = .ok (.iload_n 2, 1) := by decide +kernel
theorem dX12_puts_88 : decode cX12_puts 88 = .ok (.imul, 1) := by decide +kernel
theorem dX12_puts_89 : decode cX12_puts 89 = .ok (.iload 9, 2) := by decide +kernel
theorem dX12_puts_91 : decode cX12_puts 91 = .ok (.iadd, 1) := by decide +kernel
theorem dX12_puts_92 : decode cX12_puts 92 = .ok (.iload 8, 2) := by decide +kernel
theorem dX12_puts_94 : decode cX12_puts 94 = .ok (.iastore, 1) := by decide +kernel
theorem dX12_puts_95 : decode cX12_puts 95 = .ok (.iconst 1, 1) := by decide +kernel
theorem dX12_puts_96 : decode cX12_puts 96 = .ok (.ireturn, 1) := by decide +kernel
theorem dX12_ask_0 : decode cX12_ask 0 = .ok (.aload_n 0, 1) := by decide +kernel
theorem dX12_ask_1 : decode cX12_ask 1 = .ok (.iconst 0, 1) := by decide +kernel
theorem dX12_ask_2 : decode cX12_ask 2 = .ok (.putfield 99, 3) := by decide +kernel
theorem dX12_ask_5 : decode cX12_ask 5 = .ok (.aload_n 0, 1) := by decide +kernel
theorem dX12_ask_6 : decode cX12_ask 6 = .ok (.iload_n 1, 1) := by decide +kernel
theorem dX12_ask_7 : decode cX12_ask 7 = .ok (.invokevirtual 106, 3) := by decide +kernel
theorem dX12_ask_10 : decode cX12_ask 10 = .ok (.ifCond .ne 5, 3) := by decide +kernel
theorem dX12_ask_13 : decode cX12_ask 13 = .ok (.iconst (-1), 1) := by decide +kernel
theorem dX12_ask_14 : decode cX12_ask 14 = .ok (.ireturn, 1) := by decide +kernel
theorem dX12_ask_15 : decode cX12_ask 15 = .ok (.aload_n 0, 1) := by decide +kernel
theorem dX12_ask_16 : decode cX12_ask 16 = .ok (.iconst 0, 1) := by decide +kernel
theorem dX12_ask_17 : decode cX12_ask 17 = .ok (.putfield 110, 3) := by decide +kernel
theorem dX12_ask_20 : decode cX12_ask 20 = .ok (.aload_n 0, 1) := by decide +kernel
theorem dX12_ask_21 : decode cX12_ask 21 = .ok (.iconst 0, 1) := by decide +kernel
theorem dX12_ask_22 : decode cX12_ask 22 = .ok (.putfield 113, 3) := by decide +kernel
theorem dX12_ask_25 : decode cX12_ask 25 = .ok (.aload_n 0, 1) := by decide +kernel
theorem dX12_ask_26 : decode cX12_ask 26 = .ok (.iload_n 1, 1) := by decide +kernel
theorem dX12_ask_27 : decode cX12_ask 27 = .ok (.lload_n 2, 1) := by decide +kernel
theorem dX12_ask_28 : decode cX12_ask 28 = .ok (.invokevirtual 131, 3) := by decide +kernel
theorem dX12_ask_31 : decode cX12_ask 31 = .ok (.istore 4, 2) := by decide +kernel
theorem dX12_ask_33 : decode cX12_ask 33 = .ok (.aload_n 0, 1) := by decide +kernel
theorem dX12_ask_34 : decode cX12_ask 34 = .ok (.getfield 113, 3) := by decide +kernel
theorem dX12_ask_37 : decode cX12_ask 37 = .ok (.ifCond .eq 13, 3) := by decide +kernel
theorem dX12_ask_40 : decode cX12_ask 40 = .ok (.bipush (-10), 2) := by decide +kernel
theorem dX12_ask_42 : decode cX12_ask 42 = .ok (.aload_n 0, 1) := by decide +kernel
theorem dX12_ask_43 : decode cX12_ask 43 = .ok (.getfield 113, 3) := by decide +kernel
theorem dX12_ask_46 : decode cX12_ask 46 = .ok (.isub, 1) := by decide +kernel
theorem dX12_ask_47 : decode cX12_ask 47 = .ok (.goto 13, 3) := by decide +kernel
theorem dX12_ask_50 : decode cX12_ask 50 = .ok (.iload 4, 2) := by decide +kernel
theorem dX12_ask_52 : decode cX12_ask 52 = .ok (.ifCond .eq 7, 3) := by decide +kernel
theorem dX12_ask_55 : decode cX12_ask 55 = .ok (.iconst 1, 1) := by decide +kernel
theorem dX12_ask_56 : decode cX12_ask 56 = .ok (.goto 4, 3) := by decide +kernel
theorem dX12_ask_59 : decode cX12_ask 59 = .ok (.iconst 0, 1) := by decide +kernel
theorem dX12_ask_60 : decode cX12_ask 60 = .ok (.ireturn, 1) := by decide +kernel
theorem dX12_asked_0 : decode cX12_asked 0 = .ok (.aload_n 0, 1) := by decide +kernel
theorem dX12_asked_1 : decode cX12_asked 1 = .ok (.iconst 0, 1) := by decide +kernel
theorem dX12_asked_2 : decode cX12_asked 2 = .ok (.putfield 99, 3) := by decide +kernel
theorem dX12_asked_5 : decode cX12_asked 5 = .ok (.aload_n 0, 1) := by decide +kernel
theorem dX12_asked_6 : decode cX12_asked 6 = .ok (.iload_n 1, 1) := by decide +kernel
theorem dX12_asked_7 : decode cX12_asked 7 = .ok (.invokevirtual 106, 3) := by decide +kernel
theorem dX12_asked_10 : decode cX12_asked 10 = .ok (.ifCond .eq 12, 3) := by decide +kernel
theorem dX12_asked_13 : decode cX12_asked 13 = .ok (.aload_n 0, 1) := by decide +kernel
theorem dX12_asked_14 : decode cX12_asked 14 = .ok (.getfield 41, 3) := by decide +kernel
theorem dX12_asked_17 : decode cX12_asked 17 = .ok (.iload_n 1, 1) := by decide +kernel
theorem dX12_asked_18 : decode cX12_asked 18 = .ok (.iaload, 1) := by decide +kernel
theorem dX12_asked_19 : decode cX12_asked 19 = .ok (.goto 4, 3) := by decide +kernel
theorem dX12_asked_22 : decode cX12_asked 22 = .ok (.iconst (-1), 1) := by decide +kernel
theorem dX12_asked_23 : decode cX12_asked 23 = .ok (.ireturn, 1) := by decide +kernel
theorem dX12_isSource_0 : decode cX12_isSource 0 = .ok (.iload_n 1, 1) := by decide +kernel
theorem dX12_isSource_1 : decode cX12_isSource 1 = .ok (.ifCond .lt 15, 3) := by decide +kernel
theorem dX12_isSource_4 : decode cX12_isSource 4 = .ok (.iload_n 1, 1) := by decide +kernel
theorem dX12_isSource_5 : decode cX12_isSource 5 = .ok (.aload_n 0, 1) := by decide +kernel
theorem dX12_isSource_6 : decode cX12_isSource 6 = .ok (.getfield 137, 3) := by decide +kernel
theorem dX12_isSource_9 : decode cX12_isSource 9 = .ok (.if_icmp .ge 7, 3) := by decide +kernel
theorem dX12_isSource_12 : decode cX12_isSource 12 = .ok (.iconst 1, 1) := by decide +kernel
theorem dX12_isSource_13 : decode cX12_isSource 13 = .ok (.goto 4, 3) := by decide +kernel
theorem dX12_isSource_16 : decode cX12_isSource 16 = .ok (.iconst 0, 1) := by decide +kernel
theorem dX12_isSource_17 : decode cX12_isSource 17 = .ok (.ireturn, 1) := by decide +kernel
theorem dX12_comes_0 : decode cX12_comes 0 = .ok (.aload_n 0, 1) := by decide +kernel
theorem dX12_comes_1 : decode cX12_comes 1 = .ok (.getfield 44, 3) := by decide +kernel
theorem dX12_comes_4 : decode cX12_comes 4 = .ok (.aload_n 0, 1) := by decide +kernel
theorem dX12_comes_5 : decode cX12_comes 5 = .ok (.getfield 137, 3) := by decide +kernel
theorem dX12_comes_8 : decode cX12_comes 8 = .ok (.iload_n 1, 1) := by decide +kernel
theorem dX12_comes_9 : decode cX12_comes 9 = .ok (.iastore, 1) := by decide +kernel
theorem dX12_comes_10 : decode cX12_comes 10 = .ok (.aload_n 0, 1) := by decide +kernel
theorem dX12_comes_11 : decode cX12_comes 11 = .ok (.getfield 65, 3) := by decide +kernel
theorem dX12_comes_14 : decode cX12_comes 14 = .ok (.aload_n 0, 1) := by decide +kernel
theorem dX12_comes_15 : decode cX12_comes 15 = .ok (.getfield 137, 3) := by decide +kernel
theorem dX12_comes_18 : decode cX12_comes 18 = .ok (.iload_n 2, 1) := by decide +kernel
theorem dX12_comes_19 : decode cX12_comes 19 = .ok (.bastore, 1) := by decide +kernel
theorem dX12_comes_20 : decode cX12_comes 20 = .ok (.aload_n 0, 1) := by decide +kernel
theorem dX12_comes_21 : decode cX12_comes 21 = .ok (.getfield 62, 3) := by decide +kernel
theorem dX12_comes_24 : decode cX12_comes 24 = .ok (.aload_n 0, 1) := by decide +kernel
theorem dX12_comes_25 : decode cX12_comes 25 = .ok (.getfield 137, 3) := by decide +kernel
theorem dX12_comes_28 : decode cX12_comes 28 = .ok (.iload_n 3, 1) := by decide +kernel
theorem dX12_comes_29 : decode cX12_comes 29 = .ok (.iastore, 1) := by decide +kernel
theorem dX12_comes_30 : decode cX12_comes 30 = .ok (.aload_n 0, 1) := by decide +kernel
theorem dX12_comes_31 : decode cX12_comes 31 = .ok (.dup, 1) := by decide +kernel
theorem dX12_comes_32 : decode cX12_comes 32 = .ok (.getfield 137, 3) := by decide +kernel
theorem dX12_comes_35 : decode cX12_comes 35 = .ok (.iconst 1, 1) := by decide +kernel
theorem dX12_comes_36 : decode cX12_comes 36 = .ok (.iadd, 1) := by decide +kernel
theorem dX12_comes_37 : decode cX12_comes 37 = .ok (.putfield 137, 3) := by decide +kernel
theorem dX12_comes_40 : decode cX12_comes 40 = .ok (.aload_n 0, 1) := by decide +kernel
theorem dX12_comes_41 : decode cX12_comes 41 = .ok (.getfield 137, 3) := by decide +kernel
theorem dX12_comes_44 : decode cX12_comes 44 = .ok (.iconst 1, 1) := by decide +kernel
theorem dX12_comes_45 : decode cX12_comes 45 = .ok (.isub, 1) := by decide +kernel
theorem dX12_comes_46 : decode cX12_comes 46 = .ok (.ireturn, 1) := by decide +kernel
theorem dX12_divided_0 : decode cX12_divided 0 = .ok (.lload_n 0, 1) := by decide +kernel
theorem dX12_divided_1 : decode cX12_divided 1 = .ok (.lconst 0, 1) := by decide +kernel
theorem dX12_divided_2 : decode cX12_divided 2 = .ok (.lcmp, 1) := by decide +kernel
theorem dX12_divided_3 : decode cX12_divided 3 = .ok (.ifCond .lt 7, 3) := by decide +kernel
theorem dX12_divided_6 : decode cX12_divided 6 = .ok (.lload_n 0, 1) := by decide +kernel
theorem dX12_divided_7 : decode cX12_divided 7 = .ok (.lload_n 2, 1) := by decide +kernel
theorem dX12_divided_8 : decode cX12_divided 8 = .ok (.ldiv, 1) := by decide +kernel
theorem dX12_divided_9 : decode cX12_divided 9 = .ok (.lreturn, 1) := by decide +kernel
theorem dX12_divided_10 : decode cX12_divided 10 = .ok (.lload_n 0, 1) := by decide +kernel
theorem dX12_divided_11 : decode cX12_divided 11 = .ok (.iconst 1, 1) := by decide +kernel
theorem dX12_divided_12 : decode cX12_divided 12 = .ok (.lushr, 1) := by decide +kernel
theorem dX12_divided_13 : decode cX12_divided 13 = .ok (.lload_n 2, 1) := by decide +kernel
theorem dX12_divided_14 : decode cX12_divided 14 = .ok (.ldiv, 1) := by decide +kernel
theorem dX12_divided_15 : decode cX12_divided 15 = .ok (.ldc2_w 140, 3) := by decide +kernel
theorem dX12_divided_18 : decode cX12_divided 18 = .ok (.lmul, 1) := by decide +kernel
theorem dX12_divided_19 : decode cX12_divided 19 = .ok (.lstore 4, 2) := by decide +kernel
theorem dX12_divided_21 : decode cX12_divided 21 = .ok (.lload_n 0, 1) := by decide +kernel
theorem dX12_divided_22 : decode cX12_divided 22 = .ok (.lload 4, 2) := by decide +kernel
theorem dX12_divided_24 : decode cX12_divided 24 = .ok (.lload_n 2, 1) := by decide +kernel
theorem dX12_divided_25 : decode cX12_divided 25 = .ok (.lmul, 1) := by decide +kernel
theorem dX12_divided_26 : decode cX12_divided 26 = .ok (.lsub, 1) := by decide +kernel
theorem dX12_divided_27 : decode cX12_divided 27 = .ok (.lstore 6, 2) := by decide +kernel
theorem dX12_divided_29 : decode cX12_divided 29 = .ok (.lload 6, 2) := by decide +kernel
theorem dX12_divided_31 : decode cX12_divided 31 = .ok (.lconst 0, 1) := by decide +kernel
theorem dX12_divided_32 : decode cX12_divided 32 = .ok (.lcmp, 1) := by decide +kernel
theorem dX12_divided_33 : decode cX12_divided 33 = .ok (.ifCond .lt 10, 3) := by decide +kernel
theorem dX12_divided_36 : decode cX12_divided 36 = .ok (.lload 6, 2) := by decide +kernel
theorem dX12_divided_38 : decode cX12_divided 38 = .ok (.lload_n 2, 1) := by decide +kernel
theorem dX12_divided_39 : decode cX12_divided 39 = .ok (.lcmp, 1) := by decide +kernel
theorem dX12_divided_40 : decode cX12_divided 40 = .ok (.ifCond .lt 10, 3) := by decide +kernel
theorem dX12_divided_43 : decode cX12_divided 43 = .ok (.lload 4, 2) := by decide +kernel
theorem dX12_divided_45 : decode cX12_divided 45 = .ok (.lconst 1, 1) := by decide +kernel
theorem dX12_divided_46 : decode cX12_divided 46 = .ok (.ladd, 1) := by decide +kernel
theorem dX12_divided_47 : decode cX12_divided 47 = .ok (.goto 5, 3) := by decide +kernel
theorem dX12_divided_50 : decode cX12_divided 50 = .ok (.lload 4, 2) := by decide +kernel
theorem dX12_divided_52 : decode cX12_divided 52 = .ok (.lreturn, 1) := by decide +kernel
theorem dX12_span_0 : decode cX12_span 0 = .ok (.aload_n 0, 1) := by decide +kernel
theorem dX12_span_1 : decode cX12_span 1 = .ok (.iconst 0, 1) := by decide +kernel
theorem dX12_span_2 : decode cX12_span 2 = .ok (.putfield 99, 3) := by decide +kernel
theorem dX12_span_5 : decode cX12_span 5 = .ok (.lload 5, 2) := by decide +kernel
theorem dX12_span_7 : decode cX12_span 7 = .ok (.lconst 1, 1) := by decide +kernel
theorem dX12_span_8 : decode cX12_span 8 = .ok (.lcmp, 1) := by decide +kernel
theorem dX12_span_9 : decode cX12_span 9 = .ok (.ifCond .ge 6, 3) := by decide +kernel
theorem dX12_span_12 : decode cX12_span 12 = .ok (.bipush (-2), 2) := by decide +kernel
theorem dX12_span_14 : decode cX12_span 14 = .ok (.ireturn, 1) := by decide +kernel
theorem dX12_span_15 : decode cX12_span 15 = .ok (.lconst 0, 1) := by decide +kernel
theorem dX12_span_16 : decode cX12_span 16 = .ok (.lstore 7, 2) := by decide +kernel
theorem dX12_span_18 : decode cX12_span 18 = .ok (.lload_n 1, 1) := by decide +kernel
theorem dX12_span_19 : decode cX12_span 19 = .ok (.lload_n 3, 1) := by decide +kernel
theorem dX12_span_20 : decode cX12_span 20 = .ok (.lcmp, 1) := by decide +kernel
theorem dX12_span_21 : decode cX12_span 21 = .ok (.ifCond .gt 38, 3) := by decide +kernel
theorem dX12_span_24 : decode cX12_span 24 = .ok (.lload_n 3, 1) := by decide +kernel
theorem dX12_span_25 : decode cX12_span 25 = .ok (.lload_n 1, 1) := by decide +kernel
theorem dX12_span_26 : decode cX12_span 26 = .ok (.lsub, 1) := by decide +kernel
theorem dX12_span_27 : decode cX12_span 27 = .ok (.lload 5, 2) := by decide +kernel
theorem dX12_span_29 : decode cX12_span 29 = .ok (.invokestatic 142, 3) := by decide +kernel
theorem dX12_span_32 : decode cX12_span 32 = .ok (.lstore 9, 2) := by decide +kernel
theorem dX12_span_34 : decode cX12_span 34 = .ok (.lload 9, 2) := by decide +kernel
theorem dX12_span_36 : decode cX12_span 36 = .ok (.lconst 0, 1) := by decide +kernel
theorem dX12_span_37 : decode cX12_span 37 = .ok (.lcmp, 1) := by decide +kernel
theorem dX12_span_38 : decode cX12_span 38 = .ok (.ifCond .lt 12, 3) := by decide +kernel
theorem dX12_span_41 : decode cX12_span 41 = .ok (.lload 9, 2) := by decide +kernel
theorem dX12_span_43 : decode cX12_span 43 = .ok (.ldc2_w 148, 3) := by decide +kernel
theorem dX12_span_46 : decode cX12_span 46 = .ok (.lcmp, 1) := by decide +kernel
theorem dX12_span_47 : decode cX12_span 47 = .ok (.ifCond .ne 6, 3) := by decide +kernel
theorem dX12_span_50 : decode cX12_span 50 = .ok (.bipush (-3), 2) := by decide +kernel
theorem dX12_span_52 : decode cX12_span 52 = .ok (.ireturn, 1) := by decide +kernel
theorem dX12_span_53 : decode cX12_span 53 = .ok (.lload 9, 2) := by decide +kernel
theorem dX12_span_55 : decode cX12_span 55 = .ok (.lconst 1, 1) := by decide +kernel
theorem dX12_span_56 : decode cX12_span 56 = .ok (.ladd, 1) := by decide +kernel
theorem dX12_span_57 : decode cX12_span 57 = .ok (.lstore 7, 2) := by decide +kernel
theorem dX12_span_59 : decode cX12_span 59 = .ok (.aload_n 0, 1) := by decide +kernel
theorem dX12_span_60 : decode cX12_span 60 = .ok (.getfield 137, 3) := by decide +kernel
theorem dX12_span_63 : decode cX12_span 63 = .ok (.bipush 20, 2) := by decide +kernel
theorem dX12_span_65 : decode cX12_span 65 = .ok (.if_icmp .ne 6, 3) := by decide +kernel
theorem dX12_span_68 : decode cX12_span 68 = .ok (.bipush (-3), 2) := by decide +kernel
theorem dX12_span_70 : decode cX12_span 70 = .ok (.ireturn, 1) := by decide +kernel
theorem dX12_span_71 : decode cX12_span 71 = .ok (.aload_n 0, 1) := by decide +kernel
theorem dX12_span_72 : decode cX12_span 72 = .ok (.getfield 69, 3) := by decide +kernel
theorem dX12_span_75 : decode cX12_span 75 = .ok (.aload_n 0, 1) := by decide +kernel
theorem dX12_span_76 : decode cX12_span 76 = .ok (.getfield 137, 3) := by decide +kernel
theorem dX12_span_79 : decode cX12_span 79 = .ok (.lload_n 1, 1) := by decide +kernel
theorem dX12_span_80 : decode cX12_span 80 = .ok (.lastore, 1) := by decide +kernel
theorem dX12_span_81 : decode cX12_span 81 = .ok (.aload_n 0, 1) := by decide +kernel
theorem dX12_span_82 : decode cX12_span 82 = .ok (.getfield 72, 3) := by decide +kernel
theorem dX12_span_85 : decode cX12_span 85 = .ok (.aload_n 0, 1) := by decide +kernel
theorem dX12_span_86 : decode cX12_span 86 = .ok (.getfield 137, 3) := by decide +kernel
theorem dX12_span_89 : decode cX12_span 89 = .ok (.lload 5, 2) := by decide +kernel
theorem dX12_span_91 : decode cX12_span 91 = .ok (.lastore, 1) := by decide +kernel
theorem dX12_span_92 : decode cX12_span 92 = .ok (.aload_n 0, 1) := by decide +kernel
theorem dX12_span_93 : decode cX12_span 93 = .ok (.getfield 75, 3) := by decide +kernel
theorem dX12_span_96 : decode cX12_span 96 = .ok (.aload_n 0, 1) := by decide +kernel
theorem dX12_span_97 : decode cX12_span 97 = .ok (.getfield 137, 3) := by decide +kernel
theorem dX12_span_100 : decode cX12_span 100 = .ok (.lload 7, 2) := by decide +kernel
theorem dX12_span_102 : decode cX12_span 102 = .ok (.lastore, 1) := by decide +kernel
theorem dX12_span_103 : decode cX12_span 103 = .ok (.aload_n 0, 1) := by decide +kernel
theorem dX12_span_104 : decode cX12_span 104 = .ok (.iconst 0, 1) := by decide +kernel
theorem dX12_span_105 : decode cX12_span 105 = .ok (.iconst 1, 1) := by decide +kernel
theorem dX12_span_106 : decode cX12_span 106 = .ok (.iconst 1, 1) := by decide +kernel
theorem dX12_span_107 : decode cX12_span 107 = .ok (.invokevirtual 150, 3) := by decide +kernel
theorem dX12_span_110 : decode cX12_span 110 = .ok (.ireturn, 1) := by decide +kernel
theorem dX12_list_0 : decode cX12_list 0 = .ok (.aload_n 0, 1) := by decide +kernel
theorem dX12_list_1 : decode cX12_list 1 = .ok (.iconst 0, 1) := by decide +kernel
theorem dX12_list_2 : decode cX12_list 2 = .ok (.putfield 99, 3) := by decide +kernel
theorem dX12_list_5 : decode cX12_list 5 = .ok (.aload_n 0, 1) := by decide +kernel
theorem dX12_list_6 : decode cX12_list 6 = .ok (.getfield 137, 3) := by decide +kernel
theorem dX12_list_9 : decode cX12_list 9 = .ok (.bipush 20, 2) := by decide +kernel
theorem dX12_list_11 : decode cX12_list 11 = .ok (.if_icmp .ne 6, 3) := by decide +kernel
theorem dX12_list_14 : decode cX12_list 14 = .ok (.bipush (-3), 2) := by decide +kernel
theorem dX12_list_16 : decode cX12_list 16 = .ok (.ireturn, 1) := by decide +kernel
theorem dX12_list_17 : decode cX12_list 17 = .ok (.aload_n 0, 1) := by decide +kernel
theorem dX12_list_18 : decode cX12_list 18 = .ok (.getfield 75, 3) := by decide +kernel
theorem dX12_list_21 : decode cX12_list 21 = .ok (.aload_n 0, 1) := by decide +kernel
theorem dX12_list_22 : decode cX12_list 22 = .ok (.getfield 137, 3) := by decide +kernel
theorem dX12_list_25 : decode cX12_list 25 = .ok (.lconst 0, 1) := by decide +kernel
theorem dX12_list_26 : decode cX12_list 26 = .ok (.lastore, 1) := by decide +kernel
theorem dX12_list_27 : decode cX12_list 27 = .ok (.aload_n 0, 1) := by decide +kernel
theorem dX12_list_28 : decode cX12_list 28 = .ok (.iconst 1, 1) := by decide +kernel
theorem dX12_list_29 : decode cX12_list 29 = .ok (.iconst 0, 1) := by decide +kernel
theorem dX12_list_30 : decode cX12_list 30 = .ok (.iconst 1, 1) := by decide +kernel
theorem dX12_list_31 : decode cX12_list 31 = .ok (.invokevirtual 150, 3) := by decide +kernel
theorem dX12_list_34 : decode cX12_list 34 = .ok (.ireturn, 1) := by decide +kernel
theorem dX12_add_0 : decode cX12_add 0 = .ok (.aload_n 0, 1) := by decide +kernel
theorem dX12_add_1 : decode cX12_add 1 = .ok (.iconst 0, 1) := by decide +kernel
theorem dX12_add_2 : decode cX12_add 2 = .ok (.putfield 99, 3) := by decide +kernel
theorem dX12_add_5 : decode cX12_add 5 = .ok (.aload_n 0, 1) := by decide +kernel
theorem dX12_add_6 : decode cX12_add 6 = .ok (.iload_n 1, 1) := by decide +kernel
theorem dX12_add_7 : decode cX12_add 7 = .ok (.invokevirtual 154, 3) := by decide +kernel
theorem dX12_add_10 : decode cX12_add 10 = .ok (.ifCond .eq 13, 3) := by decide +kernel
theorem dX12_add_13 : decode cX12_add 13 = .ok (.aload_n 0, 1) := by decide +kernel
theorem dX12_add_14 : decode cX12_add 14 = .ok (.getfield 44, 3) := by decide +kernel
theorem dX12_add_17 : decode cX12_add 17 = .ok (.iload_n 1, 1) := by decide +kernel
theorem dX12_add_18 : decode cX12_add 18 = .ok (.iaload, 1) := by decide +kernel
theorem dX12_add_19 : decode cX12_add 19 = .ok (.iconst 1, 1) := by decide +kernel
theorem dX12_add_20 : decode cX12_add 20 = .ok (.if_icmp .eq 5, 3) := by decide +kernel
theorem dX12_add_23 : decode cX12_add 23 = .ok (.iconst (-1), 1) := by decide +kernel
theorem dX12_add_24 : decode cX12_add 24 = .ok (.ireturn, 1) := by decide +kernel
theorem dX12_add_25 : decode cX12_add 25 = .ok (.aload_n 0, 1) := by decide +kernel
theorem dX12_add_26 : decode cX12_add 26 = .ok (.getfield 75, 3) := by decide +kernel
theorem dX12_add_29 : decode cX12_add 29 = .ok (.iload_n 1, 1) := by decide +kernel
theorem dX12_add_30 : decode cX12_add 30 = .ok (.laload, 1) := by decide +kernel
theorem dX12_add_31 : decode cX12_add 31 = .ok (.ldc2_w 125, 3) := by decide +kernel
theorem dX12_add_34 : decode cX12_add 34 = .ok (.lcmp, 1) := by decide +kernel
theorem dX12_add_35 : decode cX12_add 35 = .ok (.ifCond .ne 6, 3) := by decide +kernel
theorem dX12_add_38 : decode cX12_add 38 = .ok (.bipush (-3), 2) := by decide +kernel
theorem dX12_add_40 : decode cX12_add 40 = .ok (.ireturn, 1) := by decide +kernel
theorem dX12_add_41 : decode cX12_add 41 = .ok (.aload_n 0, 1) := by decide +kernel
theorem dX12_add_42 : decode cX12_add 42 = .ok (.getfield 78, 3) := by decide +kernel
theorem dX12_add_45 : decode cX12_add 45 = .ok (.bipush 12, 2) := by decide +kernel
theorem dX12_add_47 : decode cX12_add 47 = .ok (.iload_n 1, 1) := by decide +kernel
theorem dX12_add_48 : decode cX12_add 48 = .ok (.imul, 1) := by decide +kernel
theorem dX12_add_49 : decode cX12_add 49 = .ok (.aload_n 0, 1) := by decide +kernel
theorem dX12_add_50 : decode cX12_add 50 = .ok (.getfield 75, 3) := by decide +kernel
theorem dX12_add_53 : decode cX12_add 53 = .ok (.iload_n 1, 1) := by decide +kernel
theorem dX12_add_54 : decode cX12_add 54 = .ok (.laload, 1) := by decide +kernel
theorem dX12_add_55 : decode cX12_add 55 = .ok (.l2i, 1) := by decide +kernel
theorem dX12_add_56 : decode cX12_add 56 = .ok (.iadd, 1) := by decide +kernel
theorem dX12_add_57 : decode cX12_add 57 = .ok (.lload_n 2, 1) := by decide +kernel
theorem dX12_add_58 : decode cX12_add 58 = .ok (.lastore, 1) := by decide +kernel
theorem dX12_add_59 : decode cX12_add 59 = .ok (.aload_n 0, 1) := by decide +kernel
theorem dX12_add_60 : decode cX12_add 60 = .ok (.getfield 75, 3) := by decide +kernel
theorem dX12_add_63 : decode cX12_add 63 = .ok (.iload_n 1, 1) := by decide +kernel
theorem dX12_add_64 : decode cX12_add 64 = .ok (.dup2, 1) := by decide +kernel
theorem dX12_add_65 : decode cX12_add 65 = .ok (.laload, 1) := by decide +kernel
theorem dX12_add_66 : decode cX12_add 66 = .ok (.lconst 1, 1) := by decide +kernel
theorem dX12_add_67 : decode cX12_add 67 = .ok (.ladd, 1) := by decide +kernel
theorem dX12_add_68 : decode cX12_add 68 = .ok (.lastore, 1) := by decide +kernel
theorem dX12_add_69 : decode cX12_add 69 = .ok (.aload_n 0, 1) := by decide +kernel
theorem dX12_add_70 : decode cX12_add 70 = .ok (.getfield 75, 3) := by decide +kernel
theorem dX12_add_73 : decode cX12_add 73 = .ok (.iload_n 1, 1) := by decide +kernel
theorem dX12_add_74 : decode cX12_add 74 = .ok (.laload, 1) := by decide +kernel
theorem dX12_add_75 : decode cX12_add 75 = .ok (.l2i, 1) := by decide +kernel
theorem dX12_add_76 : decode cX12_add 76 = .ok (.ireturn, 1) := by decide +kernel
theorem dX12_source_0 : decode cX12_source 0 = .ok (.aload_n 0, 1) := by decide +kernel
theorem dX12_source_1 : decode cX12_source 1 = .ok (.iconst 0, 1) := by decide +kernel
theorem dX12_source_2 : decode cX12_source 2 = .ok (.putfield 99, 3) := by decide +kernel
theorem dX12_source_5 : decode cX12_source 5 = .ok (.iload_n 1, 1) := by decide +kernel
theorem dX12_source_6 : decode cX12_source 6 = .ok (.iconst 2, 1) := by decide +kernel
theorem dX12_source_7 : decode cX12_source 7 = .ok (.if_icmp .lt 65, 3) := by decide +kernel
theorem dX12_source_10 : decode cX12_source 10 = .ok (.iload_n 1, 1) := by decide +kernel
theorem dX12_source_11 : decode cX12_source 11 = .ok (.bipush 9, 2) := by decide +kernel
theorem dX12_source_13 : decode cX12_source 13 = .ok (.if_icmp .gt 59, 3) := by decide +kernel
theorem dX12_source_16 : decode cX12_source 16 = .ok (.iload_n 1, 1) := by decide +kernel
theorem dX12_source_17 : decode cX12_source 17 = .ok (.bipush 6, 2) := by decide +kernel
theorem dX12_source_19 : decode cX12_source 19 = .ok (.if_icmp .ne 16, 3) := by decide +kernel
theorem dX12_source_22 : decode cX12_source 22 = .ok (.iload 5, 2) := by decide +kernel
theorem dX12_source_24 : decode cX12_source 24 = .ok (.ifCond .lt 48, 3) := by decide +kernel
theorem dX12_source_27 : decode cX12_source 27 = .ok (.iload 5, 2) := by decide +kernel
theorem dX12_source_29 : decode cX12_source 29 = .ok (.sipush 200, 3) := by decide +kernel
theorem dX12_source_32 : decode cX12_source 32 = .ok (.if_icmp .gt 40, 3) := by decide +kernel
theorem dX12_source_35 : decode cX12_source 35 = .ok (.iload_n 1, 1) := by decide +kernel
theorem dX12_source_36 : decode cX12_source 36 = .ok (.bipush 8, 2) := by decide +kernel
theorem dX12_source_38 : decode cX12_source 38 = .ok (.if_icmp .ne 17, 3) := by decide +kernel
theorem dX12_source_41 : decode cX12_source 41 = .ok (.iload 5, 2) := by decide +kernel
theorem dX12_source_43 : decode cX12_source 43 = .ok (.iconst 1, 1) := by decide +kernel
theorem dX12_source_44 : decode cX12_source 44 = .ok (.if_icmp .lt 28, 3) := by decide +kernel
theorem dX12_source_47 : decode cX12_source 47 = .ok (.iload 5, 2) := by decide +kernel
theorem dX12_source_49 : decode cX12_source 49 = .ok (.sipush 200, 3) := by decide +kernel
theorem dX12_source_52 : decode cX12_source 52 = .ok (.if_icmp .gt 20, 3) := by decide +kernel
theorem dX12_source_55 : decode cX12_source 55 = .ok (.iload_n 1, 1) := by decide +kernel
theorem dX12_source_56 : decode cX12_source 56 = .ok (.bipush 9, 2) := by decide +kernel
theorem dX12_source_58 : decode cX12_source 58 = .ok (.if_icmp .ne 17, 3) := by decide +kernel
theorem dX12_source_61 : decode cX12_source 61 = .ok (.iload 4, 2) := by decide +kernel
theorem dX12_source_63 : decode cX12_source 63 = .ok (.ifCond .lt 9, 3) := by decide +kernel
theorem dX12_source_66 : decode cX12_source 66 = .ok (.iload 4, 2) := by decide +kernel
theorem dX12_source_68 : decode cX12_source 68 = .ok (.iconst 5, 1) := by decide +kernel
theorem dX12_source_69 : decode cX12_source 69 = .ok (.if_icmp .le 6, 3) := by decide +kernel
theorem dX12_source_72 : decode cX12_source 72 = .ok (.bipush (-2), 2) := by decide +kernel
theorem dX12_source_74 : decode cX12_source 74 = .ok (.ireturn, 1) := by decide +kernel
theorem dX12_source_75 : decode cX12_source 75 = .ok (.iload_n 1, 1) := by decide +kernel
theorem dX12_source_76 : decode cX12_source 76 = .ok (.iconst 5, 1) := by decide +kernel
theorem dX12_source_77 : decode cX12_source 77 = .ok (.if_icmp .ge 7, 3) := by decide +kernel
theorem dX12_source_80 : decode cX12_source 80 = .ok (.iconst 1, 1) := by decide +kernel
theorem dX12_source_81 : decode cX12_source 81 = .ok (.goto 4, 3) := by decide +kernel
theorem dX12_source_84 : decode cX12_source 84 = .ok (.iconst 0, 1) := by decide +kernel
theorem dX12_source_85 : decode cX12_source 85 = .ok (.istore 8, 2) := by decide +kernel
theorem dX12_source_87 : decode cX12_source 87 = .ok (.iload_n 1, 1) := by decide +kernel
theorem dX12_source_88 : decode cX12_source 88 = .ok (.bipush 9, 2) := by decide +kernel
theorem dX12_source_90 : decode cX12_source 90 = .ok (.if_icmp .ge 11, 3) := by decide +kernel
theorem dX12_source_93 : decode cX12_source 93 = .ok (.aload_n 0, 1) := by decide +kernel
theorem dX12_source_94 : decode cX12_source 94 = .ok (.iload_n 2, 1) := by decide +kernel
theorem dX12_source_95 : decode cX12_source 95 = .ok (.invokevirtual 154, 3) := by decide +kernel
theorem dX12_source_98 : decode cX12_source 98 = .ok (.ifCond .eq 31, 3) := by decide +kernel
theorem dX12_source_101 : decode cX12_source 101 = .ok (.iload 8, 2) := by decide +kernel
theorem dX12_source_103 : decode cX12_source 103 = .ok (.ifCond .eq 11, 3) := by decide +kernel
theorem dX12_source_106 : decode cX12_source 106 = .ok (.aload_n 0, 1) := by decide +kernel
theorem dX12_source_107 : decode cX12_source 107 = .ok (.iload_n 3, 1) := by decide +kernel
theorem dX12_source_108 : decode cX12_source 108 = .ok (.invokevirtual 154, 3) := by decide +kernel
theorem dX12_source_111 : decode cX12_source 111 = .ok (.ifCond .eq 18, 3) := by decide +kernel
theorem dX12_source_114 : decode cX12_source 114 = .ok (.iload_n 1, 1) := by decide +kernel
theorem dX12_source_115 : decode cX12_source 115 = .ok (.bipush 7, 2) := by decide +kernel
theorem dX12_source_117 : decode cX12_source 117 = .ok (.if_icmp .ne 14, 3) := by decide +kernel
theorem dX12_source_120 : decode cX12_source 120 = .ok (.aload_n 0, 1) := by decide +kernel
theorem dX12_source_121 : decode cX12_source 121 = .ok (.iload 4, 2) := by decide +kernel
theorem dX12_source_123 : decode cX12_source 123 = .ok (.invokevirtual 106, 3) := by decide +kernel
theorem dX12_source_126 : decode cX12_source 126 = .ok (.ifCond .ne 5, 3) := by decide +kernel
theorem dX12_source_129 : decode cX12_source 129 = .ok (.iconst (-1), 1) := by decide +kernel
theorem dX12_source_130 : decode cX12_source 130 = .ok (.ireturn, 1) := by decide +kernel
theorem dX12_source_131 : decode cX12_source 131 = .ok (.iload_n 1, 1) := by decide +kernel
theorem dX12_source_132 : decode cX12_source 132 = .ok (.bipush 9, 2) := by decide +kernel
theorem dX12_source_134 : decode cX12_source 134 = .ok (.if_icmp .ne 7, 3) := by decide +kernel
theorem dX12_source_137 : decode cX12_source 137 = .ok (.iconst 1, 1) := by decide +kernel
theorem dX12_source_138 : decode cX12_source 138 = .ok (.goto 11, 3) := by decide +kernel
theorem dX12_source_141 : decode cX12_source 141 = .ok (.aload_n 0, 1) := by decide +kernel
theorem dX12_source_142 : decode cX12_source 142 = .ok (.getfield 62, 3) := by decide +kernel
theorem dX12_source_145 : decode cX12_source 145 = .ok (.iload_n 2, 1) := by decide +kernel
theorem dX12_source_146 : decode cX12_source 146 = .ok (.iaload, 1) := by decide +kernel
theorem dX12_source_147 : decode cX12_source 147 = .ok (.iconst 1, 1) := by decide +kernel
theorem dX12_source_148 : decode cX12_source 148 = .ok (.iadd, 1) := by decide +kernel
theorem dX12_source_149 : decode cX12_source 149 = .ok (.istore 9, 2) := by decide +kernel
theorem dX12_source_151 : decode cX12_source 151 = .ok (.iload 8, 2) := by decide +kernel
theorem dX12_source_153 : decode cX12_source 153 = .ok (.ifCond .eq 26, 3) := by decide +kernel
theorem dX12_source_156 : decode cX12_source 156 = .ok (.aload_n 0, 1) := by decide +kernel
theorem dX12_source_157 : decode cX12_source 157 = .ok (.getfield 62, 3) := by decide +kernel
theorem dX12_source_160 : decode cX12_source 160 = .ok (.iload_n 3, 1) := by decide +kernel
theorem dX12_source_161 : decode cX12_source 161 = .ok (.iaload, 1) := by decide +kernel
theorem dX12_source_162 : decode cX12_source 162 = .ok (.iconst 1, 1) := by decide +kernel
theorem dX12_source_163 : decode cX12_source 163 = .ok (.iadd, 1) := by decide +kernel
theorem dX12_source_164 : decode cX12_source 164 = .ok (.iload 9, 2) := by decide +kernel
theorem dX12_source_166 : decode cX12_source 166 = .ok (.if_icmp .le 13, 3) := by decide +kernel
theorem dX12_source_169 : decode cX12_source 169 = .ok (.aload_n 0, 1) := by decide +kernel
theorem dX12_source_170 : decode cX12_source 170 = .ok (.getfield 62, 3) := by decide +kernel
theorem dX12_source_173 : decode cX12_source 173 = .ok (.iload_n 3, 1) := by decide +kernel
theorem dX12_source_174 : decode cX12_source 174 = .ok (.iaload, 1) := by decide +kernel
theorem dX12_source_175 : decode cX12_source 175 = .ok (.iconst 1, 1) := by decide +kernel
theorem dX12_source_176 : decode cX12_source 176 = .ok (.iadd, 1) := by decide +kernel
theorem dX12_source_177 : decode cX12_source 177 = .ok (.istore 9, 2) := by decide +kernel
theorem dX12_source_179 : decode cX12_source 179 = .ok (.aload_n 0, 1) := by decide +kernel
theorem dX12_source_180 : decode cX12_source 180 = .ok (.getfield 137, 3) := by decide +kernel
theorem dX12_source_183 : decode cX12_source 183 = .ok (.bipush 20, 2) := by decide +kernel
theorem dX12_source_185 : decode cX12_source 185 = .ok (.if_icmp .eq 10, 3) := by decide +kernel
theorem dX12_source_188 : decode cX12_source 188 = .ok (.iload 9, 2) := by decide +kernel
theorem dX12_source_190 : decode cX12_source 190 = .ok (.bipush 6, 2) := by decide +kernel
theorem dX12_source_192 : decode cX12_source 192 = .ok (.if_icmp .le 6, 3) := by decide +kernel
theorem dX12_source_195 : decode cX12_source 195 = .ok (.bipush (-3), 2) := by decide +kernel
theorem dX12_source_197 : decode cX12_source 197 = .ok (.ireturn, 1) := by decide +kernel
theorem dX12_source_198 : decode cX12_source 198 = .ok (.aload_n 0, 1) := by decide +kernel
theorem dX12_source_199 : decode cX12_source 199 = .ok (.getfield 47, 3) := by decide +kernel
theorem dX12_source_202 : decode cX12_source 202 = .ok (.aload_n 0, 1) := by decide +kernel
theorem dX12_source_203 : decode cX12_source 203 = .ok (.getfield 137, 3) := by decide +kernel
theorem dX12_source_206 : decode cX12_source 206 = .ok (.iload_n 2, 1) := by decide +kernel
theorem dX12_source_207 : decode cX12_source 207 = .ok (.iastore, 1) := by decide +kernel
theorem dX12_source_208 : decode cX12_source 208 = .ok (.aload_n 0, 1) := by decide +kernel
theorem dX12_source_209 : decode cX12_source 209 = .ok (.getfield 50, 3) := by decide +kernel
theorem dX12_source_212 : decode cX12_source 212 = .ok (.aload_n 0, 1) := by decide +kernel
theorem dX12_source_213 : decode cX12_source 213 = .ok (.getfield 137, 3) := by decide +kernel
theorem dX12_source_216 : decode cX12_source 216 = .ok (.iload_n 3, 1) := by decide +kernel
theorem dX12_source_217 : decode cX12_source 217 = .ok (.iastore, 1) := by decide +kernel
theorem dX12_source_218 : decode cX12_source 218 = .ok (.aload_n 0, 1) := by decide +kernel
theorem dX12_source_219 : decode cX12_source 219 = .ok (.getfield 53, 3) := by decide +kernel
theorem dX12_source_222 : decode cX12_source 222 = .ok (.aload_n 0, 1) := by decide +kernel
theorem dX12_source_223 : decode cX12_source 223 = .ok (.getfield 137, 3) := by decide +kernel
theorem dX12_source_226 : decode cX12_source 226 = .ok (.iload 4, 2) := by decide +kernel
theorem dX12_source_228 : decode cX12_source 228 = .ok (.iastore, 1) := by decide +kernel
theorem dX12_source_229 : decode cX12_source 229 = .ok (.aload_n 0, 1) := by decide +kernel
theorem dX12_source_230 : decode cX12_source 230 = .ok (.getfield 56, 3) := by decide +kernel
theorem dX12_source_233 : decode cX12_source 233 = .ok (.aload_n 0, 1) := by decide +kernel
theorem dX12_source_234 : decode cX12_source 234 = .ok (.getfield 137, 3) := by decide +kernel
theorem dX12_source_237 : decode cX12_source 237 = .ok (.iload 5, 2) := by decide +kernel
theorem dX12_source_239 : decode cX12_source 239 = .ok (.iastore, 1) := by decide +kernel
theorem dX12_source_240 : decode cX12_source 240 = .ok (.aload_n 0, 1) := by decide +kernel
theorem dX12_source_241 : decode cX12_source 241 = .ok (.getfield 59, 3) := by decide +kernel
theorem dX12_source_244 : decode cX12_source 244 = .ok (.aload_n 0, 1) := by decide +kernel
theorem dX12_source_245 : decode cX12_source 245 = .ok (.getfield 137, 3) := by decide +kernel
theorem dX12_source_248 : decode cX12_source 248 = .ok (.lload 6, 2) := by decide +kernel
theorem dX12_source_250 : decode cX12_source 250 = .ok (.lastore, 1) := by decide +kernel
theorem dX12_source_251 : decode cX12_source 251 = .ok (.iload_n 1, 1) := by decide +kernel
theorem dX12_source_252 : decode cX12_source 252 = .ok (.iconst 5, 1) := by decide +kernel
theorem dX12_source_253 : decode cX12_source 253 = .ok (.if_icmp .eq 9, 3) := by decide +kernel
theorem dX12_source_256 : decode cX12_source 256 = .ok (.iload_n 1, 1) := by decide +kernel
theorem dX12_source_257 : decode cX12_source 257 = .ok (.bipush 8, 2) := by decide +kernel
theorem dX12_source_259 : decode cX12_source 259 = .ok (.if_icmp .ne 16, 3) := by decide +kernel
theorem dX12_source_262 : decode cX12_source 262 = .ok (.aload_n 0, 1) := by decide +kernel
theorem dX12_source_263 : decode cX12_source 263 = .ok (.getfield 65, 3) := by decide +kernel
theorem dX12_source_266 : decode cX12_source 266 = .ok (.iload_n 2, 1) := by decide +kernel
theorem dX12_source_267 : decode cX12_source 267 = .ok (.baload, 1) := by decide +kernel
theorem dX12_source_268 : decode cX12_source 268 = .ok (.ifCond .eq 7, 3) := by decide +kernel
theorem dX12_source_271 : decode cX12_source 271 = .ok (.iconst 1, 1) := by decide +kernel
theorem dX12_source_272 : decode cX12_source 272 = .ok (.goto 4, 3) := by decide +kernel
theorem dX12_source_275 : decode cX12_source 275 = .ok (.iconst 0, 1) := by decide +kernel
theorem dX12_source_276 : decode cX12_source 276 = .ok (.istore 10, 2) := by decide +kernel
theorem dX12_source_278 : decode cX12_source 278 = .ok (.iload 10, 2) := by decide +kernel
theorem dX12_source_280 : decode cX12_source 280 = .ok (.ifCond .eq 148, 3) := by decide +kernel
theorem dX12_source_283 : decode cX12_source 283 = .ok (.aload_n 0, 1) := by decide +kernel
theorem dX12_source_284 : decode cX12_source 284 = .ok (.getfield 75, 3) := by decide +kernel
theorem dX12_source_287 : decode cX12_source 287 = .ok (.iload_n 2, 1) := by decide +kernel
theorem dX12_source_288 : decode cX12_source 288 = .ok (.laload, 1) := by decide +kernel
theorem dX12_source_289 : decode cX12_source 289 = .ok (.lstore 11, 2) := by decide +kernel
theorem dX12_source_291 : decode cX12_source 291 = .ok (.iload_n 1, 1) := by decide +kernel
theorem dX12_source_292 : decode cX12_source 292 = .ok (.iconst 5, 1) := by decide +kernel
theorem dX12_source_293 : decode cX12_source 293 = .ok (.if_icmp .ne 71, 3) := by decide +kernel
theorem dX12_source_296 : decode cX12_source 296 = .ok (.aload_n 0, 1) := by decide +kernel
theorem dX12_source_297 : decode cX12_source 297 = .ok (.getfield 69, 3) := by decide +kernel
theorem dX12_source_300 : decode cX12_source 300 = .ok (.aload_n 0, 1) := by decide +kernel
theorem dX12_source_301 : decode cX12_source 301 = .ok (.getfield 137, 3) := by decide +kernel
theorem dX12_source_304 : decode cX12_source 304 = .ok (.aload_n 0, 1) := by decide +kernel
theorem dX12_source_305 : decode cX12_source 305 = .ok (.getfield 69, 3) := by decide +kernel
theorem dX12_source_308 : decode cX12_source 308 = .ok (.iload_n 2, 1) := by decide +kernel
theorem dX12_source_309 : decode cX12_source 309 = .ok (.laload, 1) := by decide +kernel
theorem dX12_source_310 : decode cX12_source 310 = .ok (.lload 11, 2) := by decide +kernel
theorem dX12_source_312 : decode cX12_source 312 = .ok (.lconst 0, 1) := by decide +kernel
theorem dX12_source_313 : decode cX12_source 313 = .ok (.lcmp, 1) := by decide +kernel
theorem dX12_source_314 : decode cX12_source 314 = .ok (.ifCond .ne 7, 3) := by decide +kernel
theorem dX12_source_317 : decode cX12_source 317 = .ok (.lconst 0, 1) := by decide +kernel
theorem dX12_source_318 : decode cX12_source 318 = .ok (.goto 14, 3) := by decide +kernel
theorem dX12_source_321 : decode cX12_source 321 = .ok (.lload 11, 2) := by decide +kernel
theorem dX12_source_323 : decode cX12_source 323 = .ok (.lconst 1, 1) := by decide +kernel
theorem dX12_source_324 : decode cX12_source 324 = .ok (.lsub, 1) := by decide +kernel
theorem dX12_source_325 : decode cX12_source 325 = .ok (.aload_n 0, 1) := by decide +kernel
theorem dX12_source_326 : decode cX12_source 326 = .ok (.getfield 72, 3) := by decide +kernel
theorem dX12_source_329 : decode cX12_source 329 = .ok (.iload_n 2, 1) := by decide +kernel
theorem dX12_source_330 : decode cX12_source 330 = .ok (.laload, 1) := by decide +kernel
theorem dX12_source_331 : decode cX12_source 331 = .ok (.lmul, 1) := by decide +kernel
theorem dX12_source_332 : decode cX12_source 332 = .ok (.ladd, 1) := by decide +kernel
theorem dX12_source_333 : decode cX12_source 333 = .ok (.lastore, 1) := by decide +kernel
theorem dX12_source_334 : decode cX12_source 334 = .ok (.aload_n 0, 1) := by decide +kernel
theorem dX12_source_335 : decode cX12_source 335 = .ok (.getfield 72, 3) := by decide +kernel
theorem dX12_source_338 : decode cX12_source 338 = .ok (.aload_n 0, 1) := by decide +kernel
theorem dX12_source_339 : decode cX12_source 339 = .ok (.getfield 137, 3) := by decide +kernel
theorem dX12_source_342 : decode cX12_source 342 = .ok (.aload_n 0, 1) := by decide +kernel
theorem dX12_source_343 : decode cX12_source 343 = .ok (.getfield 72, 3) := by decide +kernel
theorem dX12_source_346 : decode cX12_source 346 = .ok (.iload_n 2, 1) := by decide +kernel
theorem dX12_source_347 : decode cX12_source 347 = .ok (.laload, 1) := by decide +kernel
theorem dX12_source_348 : decode cX12_source 348 = .ok (.lneg, 1) := by decide +kernel
theorem dX12_source_349 : decode cX12_source 349 = .ok (.lastore, 1) := by decide +kernel
theorem dX12_source_350 : decode cX12_source 350 = .ok (.aload_n 0, 1) := by decide +kernel
theorem dX12_source_351 : decode cX12_source 351 = .ok (.getfield 75, 3) := by decide +kernel
theorem dX12_source_354 : decode cX12_source 354 = .ok (.aload_n 0, 1) := by decide +kernel
theorem dX12_source_355 : decode cX12_source 355 = .ok (.getfield 137, 3) := by decide +kernel
theorem dX12_source_358 : decode cX12_source 358 = .ok (.lload 11, 2) := by decide +kernel
theorem dX12_source_360 : decode cX12_source 360 = .ok (.lastore, 1) := by decide +kernel
theorem dX12_source_361 : decode cX12_source 361 = .ok (.goto 67, 3) := by decide +kernel
theorem dX12_source_364 : decode cX12_source 364 = .ok (.aload_n 0, 1) := by decide +kernel
theorem dX12_source_365 : decode cX12_source 365 = .ok (.getfield 69, 3) := by decide +kernel
theorem dX12_source_368 : decode cX12_source 368 = .ok (.aload_n 0, 1) := by decide +kernel
theorem dX12_source_369 : decode cX12_source 369 = .ok (.getfield 137, 3) := by decide +kernel
theorem dX12_source_372 : decode cX12_source 372 = .ok (.aload_n 0, 1) := by decide +kernel
theorem dX12_source_373 : decode cX12_source 373 = .ok (.getfield 69, 3) := by decide +kernel
theorem dX12_source_376 : decode cX12_source 376 = .ok (.iload_n 2, 1) := by decide +kernel
theorem dX12_source_377 : decode cX12_source 377 = .ok (.laload, 1) := by decide +kernel
theorem dX12_source_378 : decode cX12_source 378 = .ok (.lastore, 1) := by decide +kernel
theorem dX12_source_379 : decode cX12_source 379 = .ok (.aload_n 0, 1) := by decide +kernel
theorem dX12_source_380 : decode cX12_source 380 = .ok (.getfield 72, 3) := by decide +kernel
theorem dX12_source_383 : decode cX12_source 383 = .ok (.aload_n 0, 1) := by decide +kernel
theorem dX12_source_384 : decode cX12_source 384 = .ok (.getfield 137, 3) := by decide +kernel
theorem dX12_source_387 : decode cX12_source 387 = .ok (.aload_n 0, 1) := by decide +kernel
theorem dX12_source_388 : decode cX12_source 388 = .ok (.getfield 72, 3) := by decide +kernel
theorem dX12_source_391 : decode cX12_source 391 = .ok (.iload_n 2, 1) := by decide +kernel
theorem dX12_source_392 : decode cX12_source 392 = .ok (.laload, 1) := by decide +kernel
theorem dX12_source_393 : decode cX12_source 393 = .ok (.iload 5, 2) := by decide +kernel
theorem dX12_source_395 : decode cX12_source 395 = .ok (.i2l, 1) := by decide +kernel
theorem dX12_source_396 : decode cX12_source 396 = .ok (.lmul, 1) := by decide +kernel
theorem dX12_source_397 : decode cX12_source 397 = .ok (.lastore, 1) := by decide +kernel
theorem dX12_source_398 : decode cX12_source 398 = .ok (.aload_n 0, 1) := by decide +kernel
theorem dX12_source_399 : decode cX12_source 399 = .ok (.getfield 75, 3) := by decide +kernel
theorem dX12_source_402 : decode cX12_source 402 = .ok (.aload_n 0, 1) := by decide +kernel
theorem dX12_source_403 : decode cX12_source 403 = .ok (.getfield 137, 3) := by decide +kernel
theorem dX12_source_406 : decode cX12_source 406 = .ok (.lload 11, 2) := by decide +kernel
theorem dX12_source_408 : decode cX12_source 408 = .ok (.lconst 0, 1) := by decide +kernel
theorem dX12_source_409 : decode cX12_source 409 = .ok (.lcmp, 1) := by decide +kernel
theorem dX12_source_410 : decode cX12_source 410 = .ok (.ifCond .ne 7, 3) := by decide +kernel
theorem dX12_source_413 : decode cX12_source 413 = .ok (.lconst 0, 1) := by decide +kernel
theorem dX12_source_414 : decode cX12_source 414 = .ok (.goto 13, 3) := by decide +kernel
theorem dX12_source_417 : decode cX12_source 417 = .ok (.lload 11, 2) := by decide +kernel
theorem dX12_source_419 : decode cX12_source 419 = .ok (.lconst 1, 1) := by decide +kernel
theorem dX12_source_420 : decode cX12_source 420 = .ok (.lsub, 1) := by decide +kernel
theorem dX12_source_421 : decode cX12_source 421 = .ok (.iload 5, 2) := by decide +kernel
theorem dX12_source_423 : decode cX12_source 423 = .ok (.i2l, 1) := by decide +kernel
theorem dX12_source_424 : decode cX12_source 424 = .ok (.ldiv, 1) := by decide +kernel
theorem dX12_source_425 : decode cX12_source 425 = .ok (.lconst 1, 1) := by decide +kernel
theorem dX12_source_426 : decode cX12_source 426 = .ok (.ladd, 1) := by decide +kernel
theorem dX12_source_427 : decode cX12_source 427 = .ok (.lastore, 1) := by decide +kernel
theorem dX12_source_428 : decode cX12_source 428 = .ok (.aload_n 0, 1) := by decide +kernel
theorem dX12_source_429 : decode cX12_source 429 = .ok (.iload_n 1, 1) := by decide +kernel
theorem dX12_source_430 : decode cX12_source 430 = .ok (.iload 10, 2) := by decide +kernel
theorem dX12_source_432 : decode cX12_source 432 = .ok (.iload 9, 2) := by decide +kernel
theorem dX12_source_434 : decode cX12_source 434 = .ok (.invokevirtual 150, 3) := by decide +kernel
theorem dX12_source_437 : decode cX12_source 437 = .ok (.ireturn, 1) := by decide +kernel
theorem dX12_goes_0 : decode cX12_goes 0 = .ok (.aload_n 0, 1) := by decide +kernel
theorem dX12_goes_1 : decode cX12_goes 1 = .ok (.getfield 84, 3) := by decide +kernel
theorem dX12_goes_4 : decode cX12_goes 4 = .ok (.iload_n 2, 1) := by decide +kernel
theorem dX12_goes_5 : decode cX12_goes 5 = .ok (.iconst 0, 1) := by decide +kernel
theorem dX12_goes_6 : decode cX12_goes 6 = .ok (.iastore, 1) := by decide +kernel
theorem dX12_goes_7 : decode cX12_goes 7 = .ok (.aload_n 0, 1) := by decide +kernel
theorem dX12_goes_8 : decode cX12_goes 8 = .ok (.getfield 65, 3) := by decide +kernel
theorem dX12_goes_11 : decode cX12_goes 11 = .ok (.iload_n 1, 1) := by decide +kernel
theorem dX12_goes_12 : decode cX12_goes 12 = .ok (.baload, 1) := by decide +kernel
theorem dX12_goes_13 : decode cX12_goes 13 = .ok (.ifCond .eq 65, 3) := by decide +kernel
theorem dX12_goes_16 : decode cX12_goes 16 = .ok (.aload_n 0, 1) := by decide +kernel
theorem dX12_goes_17 : decode cX12_goes 17 = .ok (.getfield 75, 3) := by decide +kernel
theorem dX12_goes_20 : decode cX12_goes 20 = .ok (.iload_n 1, 1) := by decide +kernel
theorem dX12_goes_21 : decode cX12_goes 21 = .ok (.laload, 1) := by decide +kernel
theorem dX12_goes_22 : decode cX12_goes 22 = .ok (.ldc2_w 157, 3) := by decide +kernel
theorem dX12_goes_25 : decode cX12_goes 25 = .ok (.lcmp, 1) := by decide +kernel
theorem dX12_goes_26 : decode cX12_goes 26 = .ok (.ifCond .le 10, 3) := by decide +kernel
theorem dX12_goes_29 : decode cX12_goes 29 = .ok (.aload_n 0, 1) := by decide +kernel
theorem dX12_goes_30 : decode cX12_goes 30 = .ok (.iconst 1, 1) := by decide +kernel
theorem dX12_goes_31 : decode cX12_goes 31 = .ok (.putfield 159, 3) := by decide +kernel
theorem dX12_goes_34 : decode cX12_goes 34 = .ok (.iconst 0, 1) := by decide +kernel
theorem dX12_goes_35 : decode cX12_goes 35 = .ok (.ireturn, 1) := by decide +kernel
theorem dX12_goes_36 : decode cX12_goes 36 = .ok (.lconst 0, 1) := by decide +kernel
theorem dX12_goes_37 : decode cX12_goes 37 = .ok (.lstore_n 3, 1) := by decide +kernel
theorem dX12_goes_38 : decode cX12_goes 38 = .ok (.lload_n 3, 1) := by decide +kernel
theorem dX12_goes_39 : decode cX12_goes 39 = .ok (.aload_n 0, 1) := by decide +kernel
theorem dX12_goes_40 : decode cX12_goes 40 = .ok (.getfield 75, 3) := by decide +kernel
theorem dX12_goes_43 : decode cX12_goes 43 = .ok (.iload_n 1, 1) := by decide +kernel
theorem dX12_goes_44 : decode cX12_goes 44 = .ok (.laload, 1) := by decide +kernel
theorem dX12_goes_45 : decode cX12_goes 45 = .ok (.lcmp, 1) := by decide +kernel
theorem dX12_goes_46 : decode cX12_goes 46 = .ok (.ifCond .ge 30, 3) := by decide +kernel
theorem dX12_goes_49 : decode cX12_goes 49 = .ok (.aload_n 0, 1) := by decide +kernel
theorem dX12_goes_50 : decode cX12_goes 50 = .ok (.iload_n 2, 1) := by decide +kernel
theorem dX12_goes_51 : decode cX12_goes 51 = .ok (.aload_n 0, 1) := by decide +kernel
theorem dX12_goes_52 : decode cX12_goes 52 = .ok (.getfield 69, 3) := by decide +kernel
theorem dX12_goes_55 : decode cX12_goes 55 = .ok (.iload_n 1, 1) := by decide +kernel
theorem dX12_goes_56 : decode cX12_goes 56 = .ok (.laload, 1) := by decide +kernel
theorem dX12_goes_57 : decode cX12_goes 57 = .ok (.lload_n 3, 1) := by decide +kernel
theorem dX12_goes_58 : decode cX12_goes 58 = .ok (.aload_n 0, 1) := by decide +kernel
theorem dX12_goes_59 : decode cX12_goes 59 = .ok (.getfield 72, 3) := by decide +kernel
theorem dX12_goes_62 : decode cX12_goes 62 = .ok (.iload_n 1, 1) := by decide +kernel
theorem dX12_goes_63 : decode cX12_goes 63 = .ok (.laload, 1) := by decide +kernel
theorem dX12_goes_64 : decode cX12_goes 64 = .ok (.lmul, 1) := by decide +kernel
theorem dX12_goes_65 : decode cX12_goes 65 = .ok (.ladd, 1) := by decide +kernel
theorem dX12_goes_66 : decode cX12_goes 66 = .ok (.invokevirtual 163, 3) := by decide +kernel
theorem dX12_goes_69 : decode cX12_goes 69 = .ok (.lload_n 3, 1) := by decide +kernel
theorem dX12_goes_70 : decode cX12_goes 70 = .ok (.lconst 1, 1) := by decide +kernel
theorem dX12_goes_71 : decode cX12_goes 71 = .ok (.ladd, 1) := by decide +kernel
theorem dX12_goes_72 : decode cX12_goes 72 = .ok (.lstore_n 3, 1) := by decide +kernel
theorem dX12_goes_73 : decode cX12_goes 73 = .ok (.goto (-35), 3) := by decide +kernel
theorem dX12_goes_76 : decode cX12_goes 76 = .ok (.iconst 1, 1) := by decide +kernel
theorem dX12_goes_77 : decode cX12_goes 77 = .ok (.ireturn, 1) := by decide +kernel
theorem dX12_goes_78 : decode cX12_goes 78 = .ok (.iload_n 2, 1) := by decide +kernel
theorem dX12_goes_79 : decode cX12_goes 79 = .ok (.iconst 1, 1) := by decide +kernel
theorem dX12_goes_80 : decode cX12_goes 80 = .ok (.iadd, 1) := by decide +kernel
theorem dX12_goes_81 : decode cX12_goes 81 = .ok (.istore_n 3, 1) := by decide +kernel
theorem dX12_goes_82 : decode cX12_goes 82 = .ok (.aload_n 0, 1) := by decide +kernel
theorem dX12_goes_83 : decode cX12_goes 83 = .ok (.getfield 44, 3) := by decide +kernel
theorem dX12_goes_86 : decode cX12_goes 86 = .ok (.iload_n 1, 1) := by decide +kernel
theorem dX12_goes_87 : decode cX12_goes 87 = .ok (.iaload, 1) := by decide +kernel
theorem dX12_goes_88 : decode cX12_goes 88 = .ok (.tableswitch 106 1 9 #[52, 92, 92, 92, 106, 106, 106, 106, 99], 52) := by decide +kernel
theorem dX12_goes_140 : decode cX12_goes 140 = .ok (.iconst 0, 1) := by decide +kernel
theorem dX12_goes_141 : decode cX12_goes 141 = .ok (.istore 4, 2) := by decide +kernel
theorem dX12_goes_143 : decode cX12_goes 143 = .ok (.iload 4, 2) := by decide +kernel
theorem dX12_goes_145 : decode cX12_goes 145 = .ok (.aload_n 0, 1) := by decide +kernel
theorem dX12_goes_146 : decode cX12_goes 146 = .ok (.getfield 75, 3) := by decide +kernel
theorem dX12_goes_149 : decode cX12_goes 149 = .ok (.iload_n 1, 1) := by decide +kernel
theorem dX12_goes_150 : decode cX12_goes 150 = .ok (.laload, 1) := by decide +kernel
theorem dX12_goes_151 : decode cX12_goes 151 = .ok (.l2i, 1) := by decide +kernel
theorem dX12_goes_152 : decode cX12_goes 152 = .ok (.if_icmp .ge 26, 3) := by decide +kernel
theorem dX12_goes_155 : decode cX12_goes 155 = .ok (.aload_n 0, 1) := by decide +kernel
theorem dX12_goes_156 : decode cX12_goes 156 = .ok (.iload_n 2, 1) := by decide +kernel
theorem dX12_goes_157 : decode cX12_goes 157 = .ok (.aload_n 0, 1) := by decide +kernel
theorem dX12_goes_158 : decode cX12_goes 158 = .ok (.getfield 78, 3) := by decide +kernel
theorem dX12_goes_161 : decode cX12_goes 161 = .ok (.bipush 12, 2) := by decide +kernel
theorem dX12_goes_163 : decode cX12_goes 163 = .ok (.iload_n 1, 1) := by decide +kernel
theorem dX12_goes_164 : decode cX12_goes 164 = .ok (.imul, 1) := by decide +kernel
theorem dX12_goes_165 : decode cX12_goes 165 = .ok (.iload 4, 2) := by decide +kernel
theorem dX12_goes_167 : decode cX12_goes 167 = .ok (.iadd, 1) := by decide +kernel
theorem dX12_goes_168 : decode cX12_goes 168 = .ok (.laload, 1) := by decide +kernel
theorem dX12_goes_169 : decode cX12_goes 169 = .ok (.invokevirtual 163, 3) := by decide +kernel
theorem dX12_goes_172 : decode cX12_goes 172 = .ok (.iinc 4 1, 3) := by decide +kernel
theorem dX12_goes_175 : decode cX12_goes 175 = .ok (.goto (-32), 3) := by decide +kernel
theorem dX12_goes_178 : decode cX12_goes 178 = .ok (.iconst 1, 1) := by decide +kernel
theorem dX12_goes_179 : decode cX12_goes 179 = .ok (.ireturn, 1) := by decide +kernel
theorem dX12_goes_180 : decode cX12_goes 180 = .ok (.aload_n 0, 1) := by decide +kernel
theorem dX12_goes_181 : decode cX12_goes 181 = .ok (.iload_n 1, 1) := by decide +kernel
theorem dX12_goes_182 : decode cX12_goes 182 = .ok (.iload_n 2, 1) := by decide +kernel
theorem dX12_goes_183 : decode cX12_goes 183 = .ok (.invokevirtual 167, 3) := by decide +kernel
theorem dX12_goes_186 : decode cX12_goes 186 = .ok (.ireturn, 1) := by decide +kernel
theorem dX12_goes_187 : decode cX12_goes 187 = .ok (.aload_n 0, 1) := by decide +kernel
theorem dX12_goes_188 : decode cX12_goes 188 = .ok (.iload_n 1, 1) := by decide +kernel
theorem dX12_goes_189 : decode cX12_goes 189 = .ok (.iload_n 2, 1) := by decide +kernel
theorem dX12_goes_190 : decode cX12_goes 190 = .ok (.invokevirtual 170, 3) := by decide +kernel
theorem dX12_goes_193 : decode cX12_goes 193 = .ok (.ireturn, 1) := by decide +kernel
theorem dX12_goes_194 : decode cX12_goes 194 = .ok (.aload_n 0, 1) := by decide +kernel
theorem dX12_goes_195 : decode cX12_goes 195 = .ok (.aload_n 0, 1) := by decide +kernel
theorem dX12_goes_196 : decode cX12_goes 196 = .ok (.getfield 47, 3) := by decide +kernel
theorem dX12_goes_199 : decode cX12_goes 199 = .ok (.iload_n 1, 1) := by decide +kernel
theorem dX12_goes_200 : decode cX12_goes 200 = .ok (.iaload, 1) := by decide +kernel
theorem dX12_goes_201 : decode cX12_goes 201 = .ok (.iload_n 3, 1) := by decide +kernel
theorem dX12_goes_202 : decode cX12_goes 202 = .ok (.invokevirtual 173, 3) := by decide +kernel
theorem dX12_goes_205 : decode cX12_goes 205 = .ok (.ifCond .ne 5, 3) := by decide +kernel
theorem dX12_goes_208 : decode cX12_goes 208 = .ok (.iconst 0, 1) := by decide +kernel
theorem dX12_goes_209 : decode cX12_goes 209 = .ok (.ireturn, 1) := by decide +kernel
theorem dX12_goes_210 : decode cX12_goes 210 = .ok (.aload_n 0, 1) := by decide +kernel
theorem dX12_goes_211 : decode cX12_goes 211 = .ok (.iload_n 1, 1) := by decide +kernel
theorem dX12_goes_212 : decode cX12_goes 212 = .ok (.iload_n 2, 1) := by decide +kernel
theorem dX12_goes_213 : decode cX12_goes 213 = .ok (.iload_n 3, 1) := by decide +kernel
theorem dX12_goes_214 : decode cX12_goes 214 = .ok (.invokevirtual 176, 3) := by decide +kernel
theorem dX12_goes_217 : decode cX12_goes 217 = .ok (.ireturn, 1) := by decide +kernel
theorem dX12_put_0 : decode cX12_put 0 = .ok (.aload_n 0, 1) := by decide +kernel
theorem dX12_put_1 : decode cX12_put 1 = .ok (.getfield 81, 3) := by decide +kernel
theorem dX12_put_4 : decode cX12_put 4 = .ok (.sipush 201, 3) := by decide +kernel
theorem dX12_put_7 : decode cX12_put 7 = .ok (.iload_n 1, 1) := by decide +kernel
theorem dX12_put_8 : decode cX12_put 8 = .ok (.imul, 1) := by decide +kernel
theorem dX12_put_9 : decode cX12_put 9 = .ok (.aload_n 0, 1) := by decide +kernel
theorem dX12_put_10 : decode cX12_put 10 = .ok (.getfield 84, 3) := by decide +kernel
theorem dX12_put_13 : decode cX12_put 13 = .ok (.iload_n 1, 1) := by decide +kernel
theorem dX12_put_14 : decode cX12_put 14 = .ok (.iaload, 1) := by decide +kernel
theorem dX12_put_15 : decode cX12_put 15 = .ok (.iadd, 1) := by decide +kernel
theorem dX12_put_16 : decode cX12_put 16 = .ok (.lload_n 2, 1) := by decide +kernel
theorem dX12_put_17 : decode cX12_put 17 = .ok (.lastore, 1) := by decide +kernel
theorem dX12_put_18 : decode cX12_put 18 = .ok (.aload_n 0, 1) := by decide +kernel
theorem dX12_put_19 : decode cX12_put 19 = .ok (.getfield 84, 3) := by decide +kernel
theorem dX12_put_22 : decode cX12_put 22 = .ok (.iload_n 1, 1) := by decide +kernel
theorem dX12_put_23 : decode cX12_put 23 = .ok (.dup2, 1) := by decide +kernel
theorem dX12_put_24 : decode cX12_put 24 = .ok (.iaload, 1) := by decide +kernel
theorem dX12_put_25 : decode cX12_put 25 = .ok (.iconst 1, 1) := by decide +kernel
theorem dX12_put_26 : decode cX12_put 26 = .ok (.iadd, 1) := by decide +kernel
theorem dX12_put_27 : decode cX12_put 27 = .ok (.iastore, 1) := by decide +kernel
theorem dX12_put_28 : decode cX12_put 28 = .ok (.return_, 1) := by decide +kernel
theorem dX12_isIn_0 : decode cX12_isIn 0 = .ok (.iconst 0, 1) := by decide +kernel
theorem dX12_isIn_1 : decode cX12_isIn 1 = .ok (.istore 4, 2) := by decide +kernel
theorem dX12_isIn_3 : decode cX12_isIn 3 = .ok (.iload 4, 2) := by decide +kernel
theorem dX12_isIn_5 : decode cX12_isIn 5 = .ok (.aload_n 0, 1) := by decide +kernel
theorem dX12_isIn_6 : decode cX12_isIn 6 = .ok (.getfield 84, 3) := by decide +kernel
theorem dX12_isIn_9 : decode cX12_isIn 9 = .ok (.iload_n 1, 1) := by decide +kernel
theorem dX12_isIn_10 : decode cX12_isIn 10 = .ok (.iaload, 1) := by decide +kernel
theorem dX12_isIn_11 : decode cX12_isIn 11 = .ok (.if_icmp .ge 29, 3) := by decide +kernel
theorem dX12_isIn_14 : decode cX12_isIn 14 = .ok (.aload_n 0, 1) := by decide +kernel
theorem dX12_isIn_15 : decode cX12_isIn 15 = .ok (.getfield 81, 3) := by decide +kernel
theorem dX12_isIn_18 : decode cX12_isIn 18 = .ok (.sipush 201, 3) := by decide +kernel
theorem dX12_isIn_21 : decode cX12_isIn 21 = .ok (.iload_n 1, 1) := by decide +kernel
theorem dX12_isIn_22 : decode cX12_isIn 22 = .ok (.imul, 1) := by decide +kernel
theorem dX12_isIn_23 : decode cX12_isIn 23 = .ok (.iload 4, 2) := by decide +kernel
theorem dX12_isIn_25 : decode cX12_isIn 25 = .ok (.iadd, 1) := by decide +kernel
theorem dX12_isIn_26 : decode cX12_isIn 26 = .ok (.laload, 1) := by decide +kernel
theorem dX12_isIn_27 : decode cX12_isIn 27 = .ok (.lload_n 2, 1) := by decide +kernel
theorem dX12_isIn_28 : decode cX12_isIn 28 = .ok (.lcmp, 1) := by decide +kernel
theorem dX12_isIn_29 : decode cX12_isIn 29 = .ok (.ifCond .ne 5, 3) := by decide +kernel
theorem dX12_isIn_32 : decode cX12_isIn 32 = .ok (.iconst 1, 1) := by decide +kernel
theorem dX12_isIn_33 : decode cX12_isIn 33 = .ok (.ireturn, 1) := by decide +kernel
theorem dX12_isIn_34 : decode cX12_isIn 34 = .ok (.iinc 4 1, 3) := by decide +kernel
theorem dX12_isIn_37 : decode cX12_isIn 37 = .ok (.goto (-34), 3) := by decide +kernel
theorem dX12_isIn_40 : decode cX12_isIn 40 = .ok (.iconst 0, 1) := by decide +kernel
theorem dX12_isIn_41 : decode cX12_isIn 41 = .ok (.ireturn, 1) := by decide +kernel
theorem dX12_twoOf_0 : decode cX12_twoOf 0 = .ok (.iload_n 2, 1) := by decide +kernel
theorem dX12_twoOf_1 : decode cX12_twoOf 1 = .ok (.iconst 1, 1) := by decide +kernel
theorem dX12_twoOf_2 : decode cX12_twoOf 2 = .ok (.iadd, 1) := by decide +kernel
theorem dX12_twoOf_3 : decode cX12_twoOf 3 = .ok (.istore_n 3, 1) := by decide +kernel
theorem dX12_twoOf_4 : decode cX12_twoOf 4 = .ok (.iload_n 2, 1) := by decide +kernel
theorem dX12_twoOf_5 : decode cX12_twoOf 5 = .ok (.iconst 2, 1) := by decide +kernel
theorem dX12_twoOf_6 : decode cX12_twoOf 6 = .ok (.iadd, 1) := by decide +kernel
theorem dX12_twoOf_7 : decode cX12_twoOf 7 = .ok (.istore 4, 2) := by decide +kernel
theorem dX12_twoOf_9 : decode cX12_twoOf 9 = .ok (.aload_n 0, 1) := by decide +kernel
theorem dX12_twoOf_10 : decode cX12_twoOf 10 = .ok (.aload_n 0, 1) := by decide +kernel
theorem dX12_twoOf_11 : decode cX12_twoOf 11 = .ok (.getfield 47, 3) := by decide +kernel
theorem dX12_twoOf_14 : decode cX12_twoOf 14 = .ok (.iload_n 1, 1) := by decide +kernel
theorem dX12_twoOf_15 : decode cX12_twoOf 15 = .ok (.iaload, 1) := by decide +kernel
theorem dX12_twoOf_16 : decode cX12_twoOf 16 = .ok (.iload_n 3, 1) := by decide +kernel
theorem dX12_twoOf_17 : decode cX12_twoOf 17 = .ok (.invokevirtual 173, 3) := by decide +kernel
theorem dX12_twoOf_20 : decode cX12_twoOf 20 = .ok (.ifCond .eq 18, 3) := by decide +kernel
theorem dX12_twoOf_23 : decode cX12_twoOf 23 = .ok (.aload_n 0, 1) := by decide +kernel
theorem dX12_twoOf_24 : decode cX12_twoOf 24 = .ok (.aload_n 0, 1) := by decide +kernel
theorem dX12_twoOf_25 : decode cX12_twoOf 25 = .ok (.getfield 50, 3) := by decide +kernel
theorem dX12_twoOf_28 : decode cX12_twoOf 28 = .ok (.iload_n 1, 1) := by decide +kernel
theorem dX12_twoOf_29 : decode cX12_twoOf 29 = .ok (.iaload, 1) := by decide +kernel
theorem dX12_twoOf_30 : decode cX12_twoOf 30 = .ok (.iload 4, 2) := by decide +kernel
theorem dX12_twoOf_32 : decode cX12_twoOf 32 = .ok (.invokevirtual 173, 3) := by decide +kernel
theorem dX12_twoOf_35 : decode cX12_twoOf 35 = .ok (.ifCond .ne 5, 3) := by decide +kernel
theorem dX12_twoOf_38 : decode cX12_twoOf 38 = .ok (.iconst 0, 1) := by decide +kernel
theorem dX12_twoOf_39 : decode cX12_twoOf 39 = .ok (.ireturn, 1) := by decide +kernel
theorem dX12_twoOf_40 : decode cX12_twoOf 40 = .ok (.aload_n 0, 1) := by decide +kernel
theorem dX12_twoOf_41 : decode cX12_twoOf 41 = .ok (.getfield 84, 3) := by decide +kernel
theorem dX12_twoOf_44 : decode cX12_twoOf 44 = .ok (.iload_n 2, 1) := by decide +kernel
theorem dX12_twoOf_45 : decode cX12_twoOf 45 = .ok (.iconst 0, 1) := by decide +kernel
theorem dX12_twoOf_46 : decode cX12_twoOf 46 = .ok (.iastore, 1) := by decide +kernel
theorem dX12_twoOf_47 : decode cX12_twoOf 47 = .ok (.aload_n 0, 1) := by decide +kernel
theorem dX12_twoOf_48 : decode cX12_twoOf 48 = .ok (.getfield 44, 3) := by decide +kernel
theorem dX12_twoOf_51 : decode cX12_twoOf 51 = .ok (.iload_n 1, 1) := by decide +kernel
theorem dX12_twoOf_52 : decode cX12_twoOf 52 = .ok (.iaload, 1) := by decide +kernel
theorem dX12_twoOf_53 : decode cX12_twoOf 53 = .ok (.iconst 2, 1) := by decide +kernel
theorem dX12_twoOf_54 : decode cX12_twoOf 54 = .ok (.if_icmp .ne 110, 3) := by decide +kernel
theorem dX12_twoOf_57 : decode cX12_twoOf 57 = .ok (.aload_n 0, 1) := by decide +kernel
theorem dX12_twoOf_58 : decode cX12_twoOf 58 = .ok (.getfield 84, 3) := by decide +kernel
theorem dX12_twoOf_61 : decode cX12_twoOf 61 = .ok (.iload_n 3, 1) := by decide +kernel
theorem dX12_twoOf_62 : decode cX12_twoOf 62 = .ok (.iaload, 1) := by decide +kernel
theorem dX12_twoOf_63 : decode cX12_twoOf 63 = .ok (.aload_n 0, 1) := by decide +kernel
theorem dX12_twoOf_64 : decode cX12_twoOf 64 = .ok (.getfield 84, 3) := by decide +kernel
theorem dX12_twoOf_67 : decode cX12_twoOf 67 = .ok (.iload 4, 2) := by decide +kernel
theorem dX12_twoOf_69 : decode cX12_twoOf 69 = .ok (.iaload, 1) := by decide +kernel
theorem dX12_twoOf_70 : decode cX12_twoOf 70 = .ok (.iadd, 1) := by decide +kernel
theorem dX12_twoOf_71 : decode cX12_twoOf 71 = .ok (.sipush 200, 3) := by decide +kernel
theorem dX12_twoOf_74 : decode cX12_twoOf 74 = .ok (.if_icmp .le 10, 3) := by decide +kernel
theorem dX12_twoOf_77 : decode cX12_twoOf 77 = .ok (.aload_n 0, 1) := by decide +kernel
theorem dX12_twoOf_78 : decode cX12_twoOf 78 = .ok (.iconst 1, 1) := by decide +kernel
theorem dX12_twoOf_79 : decode cX12_twoOf 79 = .ok (.putfield 159, 3) := by decide +kernel
theorem dX12_twoOf_82 : decode cX12_twoOf 82 = .ok (.iconst 0, 1) := by decide +kernel
theorem dX12_twoOf_83 : decode cX12_twoOf 83 = .ok (.ireturn, 1) := by decide +kernel
theorem dX12_twoOf_84 : decode cX12_twoOf 84 = .ok (.iconst 0, 1) := by decide +kernel
theorem dX12_twoOf_85 : decode cX12_twoOf 85 = .ok (.istore 5, 2) := by decide +kernel
theorem dX12_twoOf_87 : decode cX12_twoOf 87 = .ok (.iload 5, 2) := by decide +kernel
theorem dX12_twoOf_89 : decode cX12_twoOf 89 = .ok (.aload_n 0, 1) := by decide +kernel
theorem dX12_twoOf_90 : decode cX12_twoOf 90 = .ok (.getfield 84, 3) := by decide +kernel
theorem dX12_twoOf_93 : decode cX12_twoOf 93 = .ok (.iload_n 3, 1) := by decide +kernel
theorem dX12_twoOf_94 : decode cX12_twoOf 94 = .ok (.iaload, 1) := by decide +kernel
theorem dX12_twoOf_95 : decode cX12_twoOf 95 = .ok (.if_icmp .ge 27, 3) := by decide +kernel
theorem dX12_twoOf_98 : decode cX12_twoOf 98 = .ok (.aload_n 0, 1) := by decide +kernel
theorem dX12_twoOf_99 : decode cX12_twoOf 99 = .ok (.iload_n 2, 1) := by decide +kernel
theorem dX12_twoOf_100 : decode cX12_twoOf 100 = .ok (.aload_n 0, 1) := by decide +kernel
theorem dX12_twoOf_101 : decode cX12_twoOf 101 = .ok (.getfield 81, 3) := by decide +kernel
theorem dX12_twoOf_104 : decode cX12_twoOf 104 = .ok (.sipush 201, 3) := by decide +kernel
theorem dX12_twoOf_107 : decode cX12_twoOf 107 = .ok (.iload_n 3, 1) := by decide +kernel
theorem dX12_twoOf_108 : decode cX12_twoOf 108 = .ok (.imul, 1) := by decide +kernel
theorem dX12_twoOf_109 : decode cX12_twoOf 109 = .ok (.iload 5, 2) := by decide +kernel
theorem dX12_twoOf_111 : decode cX12_twoOf 111 = .ok (.iadd, 1) := by decide +kernel
theorem dX12_twoOf_112 : decode cX12_twoOf 112 = .ok (.laload, 1) := by decide +kernel
theorem dX12_twoOf_113 : decode cX12_twoOf 113 = .ok (.invokevirtual 163, 3) := by decide +kernel
theorem dX12_twoOf_116 : decode cX12_twoOf 116 = .ok (.iinc 5 1, 3) := by decide +kernel
theorem dX12_twoOf_119 : decode cX12_twoOf 119 = .ok (.goto (-32), 3) := by decide +kernel
theorem dX12_twoOf_122 : decode cX12_twoOf 122 = .ok (.iconst 0, 1) := by decide +kernel
theorem dX12_twoOf_123 : decode cX12_twoOf 123 = .ok (.istore 5, 2) := by decide +kernel
theorem dX12_twoOf_125 : decode cX12_twoOf 125 = .ok (.iload 5, 2) := by decide +kernel
theorem dX12_twoOf_127 : decode cX12_twoOf 127 = .ok (.aload_n 0, 1) := by decide +kernel
theorem dX12_twoOf_128 : decode cX12_twoOf 128 = .ok (.getfield 84, 3) := by decide +kernel
theorem dX12_twoOf_131 : decode cX12_twoOf 131 = .ok (.iload 4, 2) := by decide +kernel
theorem dX12_twoOf_133 : decode cX12_twoOf 133 = .ok (.iaload, 1) := by decide +kernel
theorem dX12_twoOf_134 : decode cX12_twoOf 134 = .ok (.if_icmp .ge 28, 3) := by decide +kernel
theorem dX12_twoOf_137 : decode cX12_twoOf 137 = .ok (.aload_n 0, 1) := by decide +kernel
theorem dX12_twoOf_138 : decode cX12_twoOf 138 = .ok (.iload_n 2, 1) := by decide +kernel
theorem dX12_twoOf_139 : decode cX12_twoOf 139 = .ok (.aload_n 0, 1) := by decide +kernel
theorem dX12_twoOf_140 : decode cX12_twoOf 140 = .ok (.getfield 81, 3) := by decide +kernel
theorem dX12_twoOf_143 : decode cX12_twoOf 143 = .ok (.sipush 201, 3) := by decide +kernel
theorem dX12_twoOf_146 : decode cX12_twoOf 146 = .ok (.iload 4, 2) := by decide +kernel
theorem dX12_twoOf_148 : decode cX12_twoOf 148 = .ok (.imul, 1) := by decide +kernel
theorem dX12_twoOf_149 : decode cX12_twoOf 149 = .ok (.iload 5, 2) := by decide +kernel
theorem dX12_twoOf_151 : decode cX12_twoOf 151 = .ok (.iadd, 1) := by decide +kernel
theorem dX12_twoOf_152 : decode cX12_twoOf 152 = .ok (.laload, 1) := by decide +kernel
theorem dX12_twoOf_153 : decode cX12_twoOf 153 = .ok (.invokevirtual 163, 3) := by decide +kernel
theorem dX12_twoOf_156 : decode cX12_twoOf 156 = .ok (.iinc 5 1, 3) := by decide +kernel
theorem dX12_twoOf_159 : decode cX12_twoOf 159 = .ok (.goto (-34), 3) := by decide +kernel
theorem dX12_twoOf_162 : decode cX12_twoOf 162 = .ok (.iconst 1, 1) := by decide +kernel
theorem dX12_twoOf_163 : decode cX12_twoOf 163 = .ok (.ireturn, 1) := by decide +kernel
theorem dX12_twoOf_164 : decode cX12_twoOf 164 = .ok (.iconst 0, 1) := by decide +kernel
theorem dX12_twoOf_165 : decode cX12_twoOf 165 = .ok (.istore 5, 2) := by decide +kernel
theorem dX12_twoOf_167 : decode cX12_twoOf 167 = .ok (.iload 5, 2) := by decide +kernel
theorem dX12_twoOf_169 : decode cX12_twoOf 169 = .ok (.aload_n 0, 1) := by decide +kernel
theorem dX12_twoOf_170 : decode cX12_twoOf 170 = .ok (.getfield 84, 3) := by decide +kernel
theorem dX12_twoOf_173 : decode cX12_twoOf 173 = .ok (.iload_n 3, 1) := by decide +kernel
theorem dX12_twoOf_174 : decode cX12_twoOf 174 = .ok (.iaload, 1) := by decide +kernel
theorem dX12_twoOf_175 : decode cX12_twoOf 175 = .ok (.if_icmp .ge 57, 3) := by decide +kernel
theorem dX12_twoOf_178 : decode cX12_twoOf 178 = .ok (.aload_n 0, 1) := by decide +kernel
theorem dX12_twoOf_179 : decode cX12_twoOf 179 = .ok (.getfield 81, 3) := by decide +kernel
theorem dX12_twoOf_182 : decode cX12_twoOf 182 = .ok (.sipush 201, 3) := by decide +kernel
theorem dX12_twoOf_185 : decode cX12_twoOf 185 = .ok (.iload_n 3, 1) := by decide +kernel
theorem dX12_twoOf_186 : decode cX12_twoOf 186 = .ok (.imul, 1) := by decide +kernel
theorem dX12_twoOf_187 : decode cX12_twoOf 187 = .ok (.iload 5, 2) := by decide +kernel
theorem dX12_twoOf_189 : decode cX12_twoOf 189 = .ok (.iadd, 1) := by decide +kernel
theorem dX12_twoOf_190 : decode cX12_twoOf 190 = .ok (.laload, 1) := by decide +kernel
theorem dX12_twoOf_191 : decode cX12_twoOf 191 = .ok (.lstore 6, 2) := by decide +kernel
theorem dX12_twoOf_193 : decode cX12_twoOf 193 = .ok (.aload_n 0, 1) := by decide +kernel
theorem dX12_twoOf_194 : decode cX12_twoOf 194 = .ok (.iload 4, 2) := by decide +kernel
theorem dX12_twoOf_196 : decode cX12_twoOf 196 = .ok (.lload 6, 2) := by decide +kernel
theorem dX12_twoOf_198 : decode cX12_twoOf 198 = .ok (.invokevirtual 180, 3) := by decide +kernel
theorem dX12_twoOf_201 : decode cX12_twoOf 201 = .ok (.aload_n 0, 1) := by decide +kernel
theorem dX12_twoOf_202 : decode cX12_twoOf 202 = .ok (.getfield 44, 3) := by decide +kernel
theorem dX12_twoOf_205 : decode cX12_twoOf 205 = .ok (.iload_n 1, 1) := by decide +kernel
theorem dX12_twoOf_206 : decode cX12_twoOf 206 = .ok (.iaload, 1) := by decide +kernel
theorem dX12_twoOf_207 : decode cX12_twoOf 207 = .ok (.iconst 3, 1) := by decide +kernel
theorem dX12_twoOf_208 : decode cX12_twoOf 208 = .ok (.if_icmp .ne 7, 3) := by decide +kernel
theorem dX12_twoOf_211 : decode cX12_twoOf 211 = .ok (.iconst 1, 1) := by decide +kernel
theorem dX12_twoOf_212 : decode cX12_twoOf 212 = .ok (.goto 4, 3) := by decide +kernel
theorem dX12_twoOf_215 : decode cX12_twoOf 215 = .ok (.iconst 0, 1) := by decide +kernel
theorem dX12_twoOf_216 : decode cX12_twoOf 216 = .ok (.if_icmp .ne 10, 3) := by decide +kernel
theorem dX12_twoOf_219 : decode cX12_twoOf 219 = .ok (.aload_n 0, 1) := by decide +kernel
theorem dX12_twoOf_220 : decode cX12_twoOf 220 = .ok (.iload_n 2, 1) := by decide +kernel
theorem dX12_twoOf_221 : decode cX12_twoOf 221 = .ok (.lload 6, 2) := by decide +kernel
theorem dX12_twoOf_223 : decode cX12_twoOf 223 = .ok (.invokevirtual 163, 3) := by decide +kernel
theorem dX12_twoOf_226 : decode cX12_twoOf 226 = .ok (.iinc 5 1, 3) := by decide +kernel
theorem dX12_twoOf_229 : decode cX12_twoOf 229 = .ok (.goto (-62), 3) := by decide +kernel
theorem dX12_twoOf_232 : decode cX12_twoOf 232 = .ok (.iconst 1, 1) := by decide +kernel
theorem dX12_twoOf_233 : decode cX12_twoOf 233 = .ok (.ireturn, 1) := by decide +kernel
theorem dX12_shelfOf_0 : decode cX12_shelfOf 0 = .ok (.aload_n 0, 1) := by decide +kernel
theorem dX12_shelfOf_1 : decode cX12_shelfOf 1 = .ok (.getfield 53, 3) := by decide +kernel
theorem dX12_shelfOf_4 : decode cX12_shelfOf 4 = .ok (.iload_n 1, 1) := by decide +kernel
theorem dX12_shelfOf_5 : decode cX12_shelfOf 5 = .ok (.iaload, 1) := by decide +kernel
theorem dX12_shelfOf_6 : decode cX12_shelfOf 6 = .ok (.istore_n 3, 1) := by decide +kernel
theorem dX12_shelfOf_7 : decode cX12_shelfOf 7 = .ok (.aload_n 0, 1) := by decide +kernel
theorem dX12_shelfOf_8 : decode cX12_shelfOf 8 = .ok (.getfield 7, 3) := by decide +kernel
theorem dX12_shelfOf_11 : decode cX12_shelfOf 11 = .ok (.iload_n 3, 1) := by decide +kernel
theorem dX12_shelfOf_12 : decode cX12_shelfOf 12 = .ok (.iaload, 1) := by decide +kernel
theorem dX12_shelfOf_13 : decode cX12_shelfOf 13 = .ok (.ifCond .eq 13, 3) := by decide +kernel
theorem dX12_shelfOf_16 : decode cX12_shelfOf 16 = .ok (.aload_n 0, 1) := by decide +kernel
theorem dX12_shelfOf_17 : decode cX12_shelfOf 17 = .ok (.getfield 7, 3) := by decide +kernel
theorem dX12_shelfOf_20 : decode cX12_shelfOf 20 = .ok (.iload_n 3, 1) := by decide +kernel
theorem dX12_shelfOf_21 : decode cX12_shelfOf 21 = .ok (.iaload, 1) := by decide +kernel
theorem dX12_shelfOf_22 : decode cX12_shelfOf 22 = .ok (.iconst 3, 1) := by decide +kernel
theorem dX12_shelfOf_23 : decode cX12_shelfOf 23 = .ok (.if_icmp .ne 23, 3) := by decide +kernel
theorem dX12_shelfOf_26 : decode cX12_shelfOf 26 = .ok (.aload_n 0, 1) := by decide +kernel
theorem dX12_shelfOf_27 : decode cX12_shelfOf 27 = .ok (.aload_n 0, 1) := by decide +kernel
theorem dX12_shelfOf_28 : decode cX12_shelfOf 28 = .ok (.getfield 7, 3) := by decide +kernel
theorem dX12_shelfOf_31 : decode cX12_shelfOf 31 = .ok (.iload_n 3, 1) := by decide +kernel
theorem dX12_shelfOf_32 : decode cX12_shelfOf 32 = .ok (.iaload, 1) := by decide +kernel
theorem dX12_shelfOf_33 : decode cX12_shelfOf 33 = .ok (.ifCond .ne 7, 3) := by decide +kernel
theorem dX12_shelfOf_36 : decode cX12_shelfOf 36 = .ok (.iconst 1, 1) := by decide +kernel
theorem dX12_shelfOf_37 : decode cX12_shelfOf 37 = .ok (.goto 4, 3) := by decide +kernel
theorem dX12_shelfOf_40 : decode cX12_shelfOf 40 = .ok (.iconst 5, 1) := by decide +kernel
theorem dX12_shelfOf_41 : decode cX12_shelfOf 41 = .ok (.iconst (-1), 1) := by decide +kernel
theorem dX12_shelfOf_42 : decode cX12_shelfOf 42 = .ok (.invokevirtual 119, 3) := by decide +kernel
theorem dX12_shelfOf_45 : decode cX12_shelfOf 45 = .ok (.ireturn, 1) := by decide +kernel
theorem dX12_shelfOf_46 : decode cX12_shelfOf 46 = .ok (.iconst 0, 1) := by decide +kernel
theorem dX12_shelfOf_47 : decode cX12_shelfOf 47 = .ok (.istore 4, 2) := by decide +kernel
theorem dX12_shelfOf_49 : decode cX12_shelfOf 49 = .ok (.iload 4, 2) := by decide +kernel
theorem dX12_shelfOf_51 : decode cX12_shelfOf 51 = .ok (.aload_n 0, 1) := by decide +kernel
theorem dX12_shelfOf_52 : decode cX12_shelfOf 52 = .ok (.getfield 13, 3) := by decide +kernel
theorem dX12_shelfOf_55 : decode cX12_shelfOf 55 = .ok (.iload_n 3, 1) := by decide +kernel
theorem dX12_shelfOf_56 : decode cX12_shelfOf 56 = .ok (.iaload, 1) := by decide +kernel
theorem dX12_shelfOf_57 : decode cX12_shelfOf 57 = .ok (.if_icmp .ge 26, 3) := by decide +kernel
theorem dX12_shelfOf_60 : decode cX12_shelfOf 60 = .ok (.aload_n 0, 1) := by decide +kernel
theorem dX12_shelfOf_61 : decode cX12_shelfOf 61 = .ok (.iload_n 2, 1) := by decide +kernel
theorem dX12_shelfOf_62 : decode cX12_shelfOf 62 = .ok (.aload_n 0, 1) := by decide +kernel
theorem dX12_shelfOf_63 : decode cX12_shelfOf 63 = .ok (.getfield 20, 3) := by decide +kernel
theorem dX12_shelfOf_66 : decode cX12_shelfOf 66 = .ok (.bipush 12, 2) := by decide +kernel
theorem dX12_shelfOf_68 : decode cX12_shelfOf 68 = .ok (.iload_n 3, 1) := by decide +kernel
theorem dX12_shelfOf_69 : decode cX12_shelfOf 69 = .ok (.imul, 1) := by decide +kernel
theorem dX12_shelfOf_70 : decode cX12_shelfOf 70 = .ok (.iload 4, 2) := by decide +kernel
theorem dX12_shelfOf_72 : decode cX12_shelfOf 72 = .ok (.iadd, 1) := by decide +kernel
theorem dX12_shelfOf_73 : decode cX12_shelfOf 73 = .ok (.laload, 1) := by decide +kernel
theorem dX12_shelfOf_74 : decode cX12_shelfOf 74 = .ok (.invokevirtual 163, 3) := by decide +kernel
theorem dX12_shelfOf_77 : decode cX12_shelfOf 77 = .ok (.iinc 4 1, 3) := by decide +kernel
theorem dX12_shelfOf_80 : decode cX12_shelfOf 80 = .ok (.goto (-31), 3) := by decide +kernel
theorem dX12_shelfOf_83 : decode cX12_shelfOf 83 = .ok (.iconst 1, 1) := by decide +kernel
theorem dX12_shelfOf_84 : decode cX12_shelfOf 84 = .ok (.ireturn, 1) := by decide +kernel
theorem dX12_one_0 : decode cX12_one 0 = .ok (.aload_n 0, 1) := by decide +kernel
theorem dX12_one_1 : decode cX12_one 1 = .ok (.getfield 84, 3) := by decide +kernel
theorem dX12_one_4 : decode cX12_one 4 = .ok (.iload_n 2, 1) := by decide +kernel
theorem dX12_one_5 : decode cX12_one 5 = .ok (.iconst 0, 1) := by decide +kernel
theorem dX12_one_6 : decode cX12_one 6 = .ok (.iastore, 1) := by decide +kernel
theorem dX12_one_7 : decode cX12_one 7 = .ok (.aload_n 0, 1) := by decide +kernel
theorem dX12_one_8 : decode cX12_one 8 = .ok (.getfield 84, 3) := by decide +kernel
theorem dX12_one_11 : decode cX12_one 11 = .ok (.iload_n 3, 1) := by decide +kernel
theorem dX12_one_12 : decode cX12_one 12 = .ok (.iaload, 1) := by decide +kernel
theorem dX12_one_13 : decode cX12_one 13 = .ok (.istore 4, 2) := by decide +kernel
theorem dX12_one_15 : decode cX12_one 15 = .ok (.aload_n 0, 1) := by decide +kernel
theorem dX12_one_16 : decode cX12_one 16 = .ok (.getfield 44, 3) := by decide +kernel
theorem dX12_one_19 : decode cX12_one 19 = .ok (.iload_n 1, 1) := by decide +kernel
theorem dX12_one_20 : decode cX12_one 20 = .ok (.iaload, 1) := by decide +kernel
theorem dX12_one_21 : decode cX12_one 21 = .ok (.tableswitch 132 5 8 #[31, 68, 132, 88], 31) := by decide +kernel
theorem dX12_one_52 : decode cX12_one 52 = .ok (.iload 4, 2) := by decide +kernel
theorem dX12_one_54 : decode cX12_one 54 = .ok (.iconst 1, 1) := by decide +kernel
theorem dX12_one_55 : decode cX12_one 55 = .ok (.isub, 1) := by decide +kernel
theorem dX12_one_56 : decode cX12_one 56 = .ok (.istore 5, 2) := by decide +kernel
theorem dX12_one_58 : decode cX12_one 58 = .ok (.iload 5, 2) := by decide +kernel
theorem dX12_one_60 : decode cX12_one 60 = .ok (.ifCond .lt 27, 3) := by decide +kernel
theorem dX12_one_63 : decode cX12_one 63 = .ok (.aload_n 0, 1) := by decide +kernel
theorem dX12_one_64 : decode cX12_one 64 = .ok (.iload_n 2, 1) := by decide +kernel
theorem dX12_one_65 : decode cX12_one 65 = .ok (.aload_n 0, 1) := by decide +kernel
theorem dX12_one_66 : decode cX12_one 66 = .ok (.getfield 81, 3) := by decide +kernel
theorem dX12_one_69 : decode cX12_one 69 = .ok (.sipush 201, 3) := by decide +kernel
theorem dX12_one_72 : decode cX12_one 72 = .ok (.iload_n 3, 1) := by decide +kernel
theorem dX12_one_73 : decode cX12_one 73 = .ok (.imul, 1) := by decide +kernel
theorem dX12_one_74 : decode cX12_one 74 = .ok (.iload 5, 2) := by decide +kernel
theorem dX12_one_76 : decode cX12_one 76 = .ok (.iadd, 1) := by decide +kernel
theorem dX12_one_77 : decode cX12_one 77 = .ok (.laload, 1) := by decide +kernel
theorem dX12_one_78 : decode cX12_one 78 = .ok (.invokevirtual 163, 3) := by decide +kernel
theorem dX12_one_81 : decode cX12_one 81 = .ok (.iinc 5 (-1), 3) := by decide +kernel
theorem dX12_one_84 : decode cX12_one 84 = .ok (.goto (-26), 3) := by decide +kernel
theorem dX12_one_87 : decode cX12_one 87 = .ok (.iconst 1, 1) := by decide +kernel
theorem dX12_one_88 : decode cX12_one 88 = .ok (.ireturn, 1) := by decide +kernel
theorem dX12_one_89 : decode cX12_one 89 = .ok (.aload_n 0, 1) := by decide +kernel
theorem dX12_one_90 : decode cX12_one 90 = .ok (.iload_n 2, 1) := by decide +kernel
theorem dX12_one_91 : decode cX12_one 91 = .ok (.iload_n 3, 1) := by decide +kernel
theorem dX12_one_92 : decode cX12_one 92 = .ok (.aload_n 0, 1) := by decide +kernel
theorem dX12_one_93 : decode cX12_one 93 = .ok (.getfield 59, 3) := by decide +kernel
theorem dX12_one_96 : decode cX12_one 96 = .ok (.iload_n 1, 1) := by decide +kernel
theorem dX12_one_97 : decode cX12_one 97 = .ok (.laload, 1) := by decide +kernel
theorem dX12_one_98 : decode cX12_one 98 = .ok (.aload_n 0, 1) := by decide +kernel
theorem dX12_one_99 : decode cX12_one 99 = .ok (.getfield 56, 3) := by decide +kernel
theorem dX12_one_102 : decode cX12_one 102 = .ok (.iload_n 1, 1) := by decide +kernel
theorem dX12_one_103 : decode cX12_one 103 = .ok (.iaload, 1) := by decide +kernel
theorem dX12_one_104 : decode cX12_one 104 = .ok (.invokevirtual 183, 3) := by decide +kernel
theorem dX12_one_107 : decode cX12_one 107 = .ok (.iconst 1, 1) := by decide +kernel
theorem dX12_one_108 : decode cX12_one 108 = .ok (.ireturn, 1) := by decide +kernel
theorem dX12_one_109 : decode cX12_one 109 = .ok (.iconst 0, 1) := by decide +kernel
theorem dX12_one_110 : decode cX12_one 110 = .ok (.istore 5, 2) := by decide +kernel
theorem dX12_one_112 : decode cX12_one 112 = .ok (.iload 5, 2) := by decide +kernel
theorem dX12_one_114 : decode cX12_one 114 = .ok (.iload 4, 2) := by decide +kernel
theorem dX12_one_116 : decode cX12_one 116 = .ok (.if_icmp .ge 35, 3) := by decide +kernel
theorem dX12_one_119 : decode cX12_one 119 = .ok (.aload_n 0, 1) := by decide +kernel
theorem dX12_one_120 : decode cX12_one 120 = .ok (.iload_n 2, 1) := by decide +kernel
theorem dX12_one_121 : decode cX12_one 121 = .ok (.aload_n 0, 1) := by decide +kernel
theorem dX12_one_122 : decode cX12_one 122 = .ok (.getfield 81, 3) := by decide +kernel
theorem dX12_one_125 : decode cX12_one 125 = .ok (.sipush 201, 3) := by decide +kernel
theorem dX12_one_128 : decode cX12_one 128 = .ok (.iload_n 3, 1) := by decide +kernel
theorem dX12_one_129 : decode cX12_one 129 = .ok (.imul, 1) := by decide +kernel
theorem dX12_one_130 : decode cX12_one 130 = .ok (.iload 5, 2) := by decide +kernel
theorem dX12_one_132 : decode cX12_one 132 = .ok (.iadd, 1) := by decide +kernel
theorem dX12_one_133 : decode cX12_one 133 = .ok (.laload, 1) := by decide +kernel
theorem dX12_one_134 : decode cX12_one 134 = .ok (.invokevirtual 163, 3) := by decide +kernel
theorem dX12_one_137 : decode cX12_one 137 = .ok (.iload 5, 2) := by decide +kernel
theorem dX12_one_139 : decode cX12_one 139 = .ok (.aload_n 0, 1) := by decide +kernel
theorem dX12_one_140 : decode cX12_one 140 = .ok (.getfield 56, 3) := by decide +kernel
theorem dX12_one_143 : decode cX12_one 143 = .ok (.iload_n 1, 1) := by decide +kernel
theorem dX12_one_144 : decode cX12_one 144 = .ok (.iaload, 1) := by decide +kernel
theorem dX12_one_145 : decode cX12_one 145 = .ok (.iadd, 1) := by decide +kernel
theorem dX12_one_146 : decode cX12_one 146 = .ok (.istore 5, 2) := by decide +kernel
theorem dX12_one_148 : decode cX12_one 148 = .ok (.goto (-36), 3) := by decide +kernel
theorem dX12_one_151 : decode cX12_one 151 = .ok (.iconst 1, 1) := by decide +kernel
theorem dX12_one_152 : decode cX12_one 152 = .ok (.ireturn, 1) := by decide +kernel
theorem dX12_one_153 : decode cX12_one 153 = .ok (.iconst 0, 1) := by decide +kernel
theorem dX12_one_154 : decode cX12_one 154 = .ok (.istore 5, 2) := by decide +kernel
theorem dX12_one_156 : decode cX12_one 156 = .ok (.iload 5, 2) := by decide +kernel
theorem dX12_one_158 : decode cX12_one 158 = .ok (.iload 4, 2) := by decide +kernel
theorem dX12_one_160 : decode cX12_one 160 = .ok (.if_icmp .ge 128, 3) := by decide +kernel
theorem dX12_one_163 : decode cX12_one 163 = .ok (.aload_n 0, 1) := by decide +kernel
theorem dX12_one_164 : decode cX12_one 164 = .ok (.getfield 81, 3) := by decide +kernel
theorem dX12_one_167 : decode cX12_one 167 = .ok (.sipush 201, 3) := by decide +kernel
theorem dX12_one_170 : decode cX12_one 170 = .ok (.iload_n 3, 1) := by decide +kernel
theorem dX12_one_171 : decode cX12_one 171 = .ok (.imul, 1) := by decide +kernel
theorem dX12_one_172 : decode cX12_one 172 = .ok (.iload 5, 2) := by decide +kernel
theorem dX12_one_174 : decode cX12_one 174 = .ok (.iadd, 1) := by decide +kernel
theorem dX12_one_175 : decode cX12_one 175 = .ok (.laload, 1) := by decide +kernel
theorem dX12_one_176 : decode cX12_one 176 = .ok (.lstore 6, 2) := by decide +kernel
theorem dX12_one_178 : decode cX12_one 178 = .ok (.aload_n 0, 1) := by decide +kernel
theorem dX12_one_179 : decode cX12_one 179 = .ok (.iconst 0, 1) := by decide +kernel
theorem dX12_one_180 : decode cX12_one 180 = .ok (.putfield 113, 3) := by decide +kernel
theorem dX12_one_183 : decode cX12_one 183 = .ok (.aload_n 0, 1) := by decide +kernel
theorem dX12_one_184 : decode cX12_one 184 = .ok (.aload_n 0, 1) := by decide +kernel
theorem dX12_one_185 : decode cX12_one 185 = .ok (.getfield 53, 3) := by decide +kernel
theorem dX12_one_188 : decode cX12_one 188 = .ok (.iload_n 1, 1) := by decide +kernel
theorem dX12_one_189 : decode cX12_one 189 = .ok (.iaload, 1) := by decide +kernel
theorem dX12_one_190 : decode cX12_one 190 = .ok (.lload 6, 2) := by decide +kernel
theorem dX12_one_192 : decode cX12_one 192 = .ok (.invokevirtual 131, 3) := by decide +kernel
theorem dX12_one_195 : decode cX12_one 195 = .ok (.istore 8, 2) := by decide +kernel
theorem dX12_one_197 : decode cX12_one 197 = .ok (.aload_n 0, 1) := by decide +kernel
theorem dX12_one_198 : decode cX12_one 198 = .ok (.getfield 113, 3) := by decide +kernel
theorem dX12_one_201 : decode cX12_one 201 = .ok (.bipush 8, 2) := by decide +kernel
theorem dX12_one_203 : decode cX12_one 203 = .ok (.if_icmp .ne 5, 3) := by decide +kernel
theorem dX12_one_206 : decode cX12_one 206 = .ok (.iconst 0, 1) := by decide +kernel
theorem dX12_one_207 : decode cX12_one 207 = .ok (.ireturn, 1) := by decide +kernel
theorem dX12_one_208 : decode cX12_one 208 = .ok (.aload_n 0, 1) := by decide +kernel
theorem dX12_one_209 : decode cX12_one 209 = .ok (.getfield 113, 3) := by decide +kernel
theorem dX12_one_212 : decode cX12_one 212 = .ok (.ifCond .eq 58, 3) := by decide +kernel
theorem dX12_one_215 : decode cX12_one 215 = .ok (.aload_n 0, 1) := by decide +kernel
theorem dX12_one_216 : decode cX12_one 216 = .ok (.getfield 87, 3) := by decide +kernel
theorem dX12_one_219 : decode cX12_one 219 = .ok (.aload_n 0, 1) := by decide +kernel
theorem dX12_one_220 : decode cX12_one 220 = .ok (.getfield 187, 3) := by decide +kernel
theorem dX12_one_223 : decode cX12_one 223 = .ok (.lload 6, 2) := by decide +kernel
theorem dX12_one_225 : decode cX12_one 225 = .ok (.lastore, 1) := by decide +kernel
theorem dX12_one_226 : decode cX12_one 226 = .ok (.aload_n 0, 1) := by decide +kernel
theorem dX12_one_227 : decode cX12_one 227 = .ok (.getfield 90, 3) := by decide +kernel
theorem dX12_one_230 : decode cX12_one 230 = .ok (.aload_n 0, 1) := by decide +kernel
theorem dX12_one_231 : decode cX12_one 231 = .ok (.getfield 187, 3) := by decide +kernel
theorem dX12_one_234 : decode cX12_one 234 = .ok (.aload_n 0, 1) := by decide +kernel
theorem dX12_one_235 : decode cX12_one 235 = .ok (.getfield 113, 3) := by decide +kernel
theorem dX12_one_238 : decode cX12_one 238 = .ok (.iastore, 1) := by decide +kernel
theorem dX12_one_239 : decode cX12_one 239 = .ok (.aload_n 0, 1) := by decide +kernel
theorem dX12_one_240 : decode cX12_one 240 = .ok (.getfield 93, 3) := by decide +kernel
theorem dX12_one_243 : decode cX12_one 243 = .ok (.aload_n 0, 1) := by decide +kernel
theorem dX12_one_244 : decode cX12_one 244 = .ok (.getfield 187, 3) := by decide +kernel
theorem dX12_one_247 : decode cX12_one 247 = .ok (.aload_n 0, 1) := by decide +kernel
theorem dX12_one_248 : decode cX12_one 248 = .ok (.getfield 116, 3) := by decide +kernel
theorem dX12_one_251 : decode cX12_one 251 = .ok (.iastore, 1) := by decide +kernel
theorem dX12_one_252 : decode cX12_one 252 = .ok (.aload_n 0, 1) := by decide +kernel
theorem dX12_one_253 : decode cX12_one 253 = .ok (.dup, 1) := by decide +kernel
theorem dX12_one_254 : decode cX12_one 254 = .ok (.getfield 187, 3) := by decide +kernel
theorem dX12_one_257 : decode cX12_one 257 = .ok (.iconst 1, 1) := by decide +kernel
theorem dX12_one_258 : decode cX12_one 258 = .ok (.iadd, 1) := by decide +kernel
theorem dX12_one_259 : decode cX12_one 259 = .ok (.putfield 187, 3) := by decide +kernel
theorem dX12_one_262 : decode cX12_one 262 = .ok (.aload_n 0, 1) := by decide +kernel
theorem dX12_one_263 : decode cX12_one 263 = .ok (.iconst 0, 1) := by decide +kernel
theorem dX12_one_264 : decode cX12_one 264 = .ok (.putfield 113, 3) := by decide +kernel
theorem dX12_one_267 : decode cX12_one 267 = .ok (.goto 15, 3) := by decide +kernel
theorem dX12_one_270 : decode cX12_one 270 = .ok (.iload 8, 2) := by decide +kernel
theorem dX12_one_272 : decode cX12_one 272 = .ok (.ifCond .eq 10, 3) := by decide +kernel
theorem dX12_one_275 : decode cX12_one 275 = .ok (.aload_n 0, 1) := by decide +kernel
theorem dX12_one_276 : decode cX12_one 276 = .ok (.iload_n 2, 1) := by decide +kernel
theorem dX12_one_277 : decode cX12_one 277 = .ok (.lload 6, 2) := by decide +kernel
theorem dX12_one_279 : decode cX12_one 279 = .ok (.invokevirtual 163, 3) := by decide +kernel
theorem dX12_one_282 : decode cX12_one 282 = .ok (.iinc 5 1, 3) := by decide +kernel
theorem dX12_one_285 : decode cX12_one 285 = .ok (.goto (-129), 3) := by decide +kernel
theorem dX12_one_288 : decode cX12_one 288 = .ok (.iconst 1, 1) := by decide +kernel
theorem dX12_one_289 : decode cX12_one 289 = .ok (.ireturn, 1) := by decide +kernel
theorem dX12_far_0 : decode cX12_far 0 = .ok (.lload_n 0, 1) := by decide +kernel
theorem dX12_far_1 : decode cX12_far 1 = .ok (.lload_n 2, 1) := by decide +kernel
theorem dX12_far_2 : decode cX12_far 2 = .ok (.lcmp, 1) := by decide +kernel
theorem dX12_far_3 : decode cX12_far 3 = .ok (.ifCond .lt 9, 3) := by decide +kernel
theorem dX12_far_6 : decode cX12_far 6 = .ok (.lload_n 0, 1) := by decide +kernel
theorem dX12_far_7 : decode cX12_far 7 = .ok (.lload_n 2, 1) := by decide +kernel
theorem dX12_far_8 : decode cX12_far 8 = .ok (.lsub, 1) := by decide +kernel
theorem dX12_far_9 : decode cX12_far 9 = .ok (.goto 6, 3) := by decide +kernel
theorem dX12_far_12 : decode cX12_far 12 = .ok (.lload_n 2, 1) := by decide +kernel
theorem dX12_far_13 : decode cX12_far 13 = .ok (.lload_n 0, 1) := by decide +kernel
theorem dX12_far_14 : decode cX12_far 14 = .ok (.lsub, 1) := by decide +kernel
theorem dX12_far_15 : decode cX12_far 15 = .ok (.lreturn, 1) := by decide +kernel
theorem dX12_isNearer_0 : decode cX12_isNearer 0 = .ok (.lload_n 0, 1) := by decide +kernel
theorem dX12_isNearer_1 : decode cX12_isNearer 1 = .ok (.lload 4, 2) := by decide +kernel
theorem dX12_isNearer_3 : decode cX12_isNearer 3 = .ok (.invokestatic 190, 3) := by decide +kernel
theorem dX12_isNearer_6 : decode cX12_isNearer 6 = .ok (.ldc2_w 193, 3) := by decide +kernel
theorem dX12_isNearer_9 : decode cX12_isNearer 9 = .ok (.lxor, 1) := by decide +kernel
theorem dX12_isNearer_10 : decode cX12_isNearer 10 = .ok (.lstore 6, 2) := by decide +kernel
theorem dX12_isNearer_12 : decode cX12_isNearer 12 = .ok (.lload_n 2, 1) := by decide +kernel
theorem dX12_isNearer_13 : decode cX12_isNearer 13 = .ok (.lload 4, 2) := by decide +kernel
theorem dX12_isNearer_15 : decode cX12_isNearer 15 = .ok (.invokestatic 190, 3) := by decide +kernel
theorem dX12_isNearer_18 : decode cX12_isNearer 18 = .ok (.ldc2_w 193, 3) := by decide +kernel
theorem dX12_isNearer_21 : decode cX12_isNearer 21 = .ok (.lxor, 1) := by decide +kernel
theorem dX12_isNearer_22 : decode cX12_isNearer 22 = .ok (.lstore 8, 2) := by decide +kernel
theorem dX12_isNearer_24 : decode cX12_isNearer 24 = .ok (.lload 6, 2) := by decide +kernel
theorem dX12_isNearer_26 : decode cX12_isNearer 26 = .ok (.lload 8, 2) := by decide +kernel
theorem dX12_isNearer_28 : decode cX12_isNearer 28 = .ok (.lcmp, 1) := by decide +kernel
theorem dX12_isNearer_29 : decode cX12_isNearer 29 = .ok (.ifCond .eq 19, 3) := by decide +kernel
theorem dX12_isNearer_32 : decode cX12_isNearer 32 = .ok (.lload 6, 2) := by decide +kernel
theorem dX12_isNearer_34 : decode cX12_isNearer 34 = .ok (.lload 8, 2) := by decide +kernel
theorem dX12_isNearer_36 : decode cX12_isNearer 36 = .ok (.lcmp, 1) := by decide +kernel
theorem dX12_isNearer_37 : decode cX12_isNearer 37 = .ok (.ifCond .ge 7, 3) := by decide +kernel
theorem dX12_isNearer_40 : decode cX12_isNearer 40 = .ok (.iconst 1, 1) := by decide +kernel
theorem dX12_isNearer_41 : decode cX12_isNearer 41 = .ok (.goto 18, 3) := by decide +kernel
theorem dX12_isNearer_44 : decode cX12_isNearer 44 = .ok (.iconst 0, 1) := by decide +kernel
theorem dX12_isNearer_45 : decode cX12_isNearer 45 = .ok (.goto 14, 3) := by decide +kernel
theorem dX12_isNearer_48 : decode cX12_isNearer 48 = .ok (.lload_n 0, 1) := by decide +kernel
theorem dX12_isNearer_49 : decode cX12_isNearer 49 = .ok (.lload_n 2, 1) := by decide +kernel
theorem dX12_isNearer_50 : decode cX12_isNearer 50 = .ok (.lcmp, 1) := by decide +kernel
theorem dX12_isNearer_51 : decode cX12_isNearer 51 = .ok (.ifCond .ge 7, 3) := by decide +kernel
theorem dX12_isNearer_54 : decode cX12_isNearer 54 = .ok (.iconst 1, 1) := by decide +kernel
theorem dX12_isNearer_55 : decode cX12_isNearer 55 = .ok (.goto 4, 3) := by decide +kernel
theorem dX12_isNearer_58 : decode cX12_isNearer 58 = .ok (.iconst 0, 1) := by decide +kernel
theorem dX12_isNearer_59 : decode cX12_isNearer 59 = .ok (.ireturn, 1) := by decide +kernel
theorem dX12_near_0 : decode cX12_near 0 = .ok (.iconst 0, 1) := by decide +kernel
theorem dX12_near_1 : decode cX12_near 1 = .ok (.istore 6, 2) := by decide +kernel
theorem dX12_near_3 : decode cX12_near 3 = .ok (.iload 6, 2) := by decide +kernel
theorem dX12_near_5 : decode cX12_near 5 = .ok (.aload_n 0, 1) := by decide +kernel
theorem dX12_near_6 : decode cX12_near 6 = .ok (.getfield 84, 3) := by decide +kernel
theorem dX12_near_9 : decode cX12_near 9 = .ok (.iload_n 2, 1) := by decide +kernel
theorem dX12_near_10 : decode cX12_near 10 = .ok (.iaload, 1) := by decide +kernel
theorem dX12_near_11 : decode cX12_near 11 = .ok (.if_icmp .ge 120, 3) := by decide +kernel
theorem dX12_near_14 : decode cX12_near 14 = .ok (.aload_n 0, 1) := by decide +kernel
theorem dX12_near_15 : decode cX12_near 15 = .ok (.getfield 81, 3) := by decide +kernel
theorem dX12_near_18 : decode cX12_near 18 = .ok (.sipush 201, 3) := by decide +kernel
theorem dX12_near_21 : decode cX12_near 21 = .ok (.iload_n 2, 1) := by decide +kernel
theorem dX12_near_22 : decode cX12_near 22 = .ok (.imul, 1) := by decide +kernel
theorem dX12_near_23 : decode cX12_near 23 = .ok (.iload 6, 2) := by decide +kernel
theorem dX12_near_25 : decode cX12_near 25 = .ok (.iadd, 1) := by decide +kernel
theorem dX12_near_26 : decode cX12_near 26 = .ok (.laload, 1) := by decide +kernel
theorem dX12_near_27 : decode cX12_near 27 = .ok (.lstore 7, 2) := by decide +kernel
theorem dX12_near_29 : decode cX12_near 29 = .ok (.aload_n 0, 1) := by decide +kernel
theorem dX12_near_30 : decode cX12_near 30 = .ok (.getfield 84, 3) := by decide +kernel
theorem dX12_near_33 : decode cX12_near 33 = .ok (.iload_n 1, 1) := by decide +kernel
theorem dX12_near_34 : decode cX12_near 34 = .ok (.iaload, 1) := by decide +kernel
theorem dX12_near_35 : decode cX12_near 35 = .ok (.istore 9, 2) := by decide +kernel
theorem dX12_near_37 : decode cX12_near 37 = .ok (.aload_n 0, 1) := by decide +kernel
theorem dX12_near_38 : decode cX12_near 38 = .ok (.getfield 84, 3) := by decide +kernel
theorem dX12_near_41 : decode cX12_near 41 = .ok (.iload_n 1, 1) := by decide +kernel
theorem dX12_near_42 : decode cX12_near 42 = .ok (.dup2, 1) := by decide +kernel
theorem dX12_near_43 : decode cX12_near 43 = .ok (.iaload, 1) := by decide +kernel
theorem dX12_near_44 : decode cX12_near 44 = .ok (.iconst 1, 1) := by decide +kernel
theorem dX12_near_45 : decode cX12_near 45 = .ok (.iadd, 1) := by decide +kernel
theorem dX12_near_46 : decode cX12_near 46 = .ok (.iastore, 1) := by decide +kernel
theorem dX12_near_47 : decode cX12_near 47 = .ok (.iload 9, 2) := by decide +kernel
theorem dX12_near_49 : decode cX12_near 49 = .ok (.ifCond .le 61, 3) := by decide +kernel
theorem dX12_near_52 : decode cX12_near 52 = .ok (.lload 7, 2) := by decide +kernel
theorem dX12_near_54 : decode cX12_near 54 = .ok (.aload_n 0, 1) := by decide +kernel
theorem dX12_near_55 : decode cX12_near 55 = .ok (.getfield 81, 3) := by decide +kernel
theorem dX12_near_58 : decode cX12_near 58 = .ok (.sipush 201, 3) := by decide +kernel
theorem dX12_near_61 : decode cX12_near 61 = .ok (.iload_n 1, 1) := by decide +kernel
theorem dX12_near_62 : decode cX12_near 62 = .ok (.imul, 1) := by decide +kernel
theorem dX12_near_63 : decode cX12_near 63 = .ok (.iload 9, 2) := by decide +kernel
theorem dX12_near_65 : decode cX12_near 65 = .ok (.iadd, 1) := by decide +kernel
theorem dX12_near_66 : decode cX12_near 66 = .ok (.iconst 1, 1) := by decide +kernel
theorem dX12_near_67 : decode cX12_near 67 = .ok (.isub, 1) := by decide +kernel
theorem dX12_near_68 : decode cX12_near 68 = .ok (.laload, 1) := by decide +kernel
theorem dX12_near_69 : decode cX12_near 69 = .ok (.lload_n 3, 1) := by decide +kernel
theorem dX12_near_70 : decode cX12_near 70 = .ok (.invokestatic 195, 3) := by decide +kernel
theorem dX12_near_73 : decode cX12_near 73 = .ok (.ifCond .eq 37, 3) := by decide +kernel
theorem dX12_near_76 : decode cX12_near 76 = .ok (.aload_n 0, 1) := by decide +kernel
theorem dX12_near_77 : decode cX12_near 77 = .ok (.getfield 81, 3) := by decide +kernel
theorem dX12_near_80 : decode cX12_near 80 = .ok (.sipush 201, 3) := by decide +kernel
theorem dX12_near_83 : decode cX12_near 83 = .ok (.iload_n 1, 1) := by decide +kernel
theorem dX12_near_84 : decode cX12_near 84 = .ok (.imul, 1) := by decide +kernel
theorem dX12_near_85 : decode cX12_near 85 = .ok (.iload 9, 2) := by decide +kernel
theorem dX12_near_87 : decode cX12_near 87 = .ok (.iadd, 1) := by decide +kernel
theorem dX12_near_88 : decode cX12_near 88 = .ok (.aload_n 0, 1) := by decide +kernel
theorem dX12_near_89 : decode cX12_near 89 = .ok (.getfield 81, 3) := by decide +kernel
theorem dX12_near_92 : decode cX12_near 92 = .ok (.sipush 201, 3) := by decide +kernel
theorem dX12_near_95 : decode cX12_near 95 = .ok (.iload_n 1, 1) := by decide +kernel
theorem dX12_near_96 : decode cX12_near 96 = .ok (.imul, 1) := by decide +kernel
theorem dX12_near_97 : decode cX12_near 97 = .ok (.iload 9, 2) := by decide +kernel
theorem dX12_near_99 : decode cX12_near 99 = .ok (.iadd, 1) := by decide +kernel
theorem dX12_near_100 : decode cX12_near 100 = .ok (.iconst 1, 1) := by decide +kernel
theorem dX12_near_101 : decode cX12_near 101 = .ok (.isub, 1) := by decide +kernel
theorem dX12_near_102 : decode cX12_near 102 = .ok (.laload, 1) := by decide +kernel
theorem dX12_near_103 : decode cX12_near 103 = .ok (.lastore, 1) := by decide +kernel
theorem dX12_near_104 : decode cX12_near 104 = .ok (.iinc 9 (-1), 3) := by decide +kernel
theorem dX12_near_107 : decode cX12_near 107 = .ok (.goto (-60), 3) := by decide +kernel
theorem dX12_near_110 : decode cX12_near 110 = .ok (.aload_n 0, 1) := by decide +kernel
theorem dX12_near_111 : decode cX12_near 111 = .ok (.getfield 81, 3) := by decide +kernel
theorem dX12_near_114 : decode cX12_near 114 = .ok (.sipush 201, 3) := by decide +kernel
theorem dX12_near_117 : decode cX12_near 117 = .ok (.iload_n 1, 1) := by decide +kernel
theorem dX12_near_118 : decode cX12_near 118 = .ok (.imul, 1) := by decide +kernel
theorem dX12_near_119 : decode cX12_near 119 = .ok (.iload 9, 2) := by decide +kernel
theorem dX12_near_121 : decode cX12_near 121 = .ok (.iadd, 1) := by decide +kernel
theorem dX12_near_122 : decode cX12_near 122 = .ok (.lload 7, 2) := by decide +kernel
theorem dX12_near_124 : decode cX12_near 124 = .ok (.lastore, 1) := by decide +kernel
theorem dX12_near_125 : decode cX12_near 125 = .ok (.iinc 6 1, 3) := by decide +kernel
theorem dX12_near_128 : decode cX12_near 128 = .ok (.goto (-125), 3) := by decide +kernel
theorem dX12_near_131 : decode cX12_near 131 = .ok (.aload_n 0, 1) := by decide +kernel
theorem dX12_near_132 : decode cX12_near 132 = .ok (.getfield 84, 3) := by decide +kernel
theorem dX12_near_135 : decode cX12_near 135 = .ok (.iload_n 1, 1) := by decide +kernel
theorem dX12_near_136 : decode cX12_near 136 = .ok (.aload_n 0, 1) := by decide +kernel
theorem dX12_near_137 : decode cX12_near 137 = .ok (.getfield 84, 3) := by decide +kernel
theorem dX12_near_140 : decode cX12_near 140 = .ok (.iload_n 1, 1) := by decide +kernel
theorem dX12_near_141 : decode cX12_near 141 = .ok (.iaload, 1) := by decide +kernel
theorem dX12_near_142 : decode cX12_near 142 = .ok (.iload 5, 2) := by decide +kernel
theorem dX12_near_144 : decode cX12_near 144 = .ok (.if_icmp .ge 12, 3) := by decide +kernel
theorem dX12_near_147 : decode cX12_near 147 = .ok (.aload_n 0, 1) := by decide +kernel
theorem dX12_near_148 : decode cX12_near 148 = .ok (.getfield 84, 3) := by decide +kernel
theorem dX12_near_151 : decode cX12_near 151 = .ok (.iload_n 1, 1) := by decide +kernel
theorem dX12_near_152 : decode cX12_near 152 = .ok (.iaload, 1) := by decide +kernel
theorem dX12_near_153 : decode cX12_near 153 = .ok (.goto 5, 3) := by decide +kernel
theorem dX12_near_156 : decode cX12_near 156 = .ok (.iload 5, 2) := by decide +kernel
theorem dX12_near_158 : decode cX12_near 158 = .ok (.iastore, 1) := by decide +kernel
theorem dX12_near_159 : decode cX12_near 159 = .ok (.return_, 1) := by decide +kernel
theorem dX12_range_0 : decode cX12_range 0 = .ok (.aload_n 0, 1) := by decide +kernel
theorem dX12_range_1 : decode cX12_range 1 = .ok (.iconst 0, 1) := by decide +kernel
theorem dX12_range_2 : decode cX12_range 2 = .ok (.putfield 99, 3) := by decide +kernel
theorem dX12_range_5 : decode cX12_range 5 = .ok (.aload_n 0, 1) := by decide +kernel
theorem dX12_range_6 : decode cX12_range 6 = .ok (.iload_n 1, 1) := by decide +kernel
theorem dX12_range_7 : decode cX12_range 7 = .ok (.invokevirtual 154, 3) := by decide +kernel
theorem dX12_range_10 : decode cX12_range 10 = .ok (.ifCond .ne 5, 3) := by decide +kernel
theorem dX12_range_13 : decode cX12_range 13 = .ok (.iconst (-1), 1) := by decide +kernel
theorem dX12_range_14 : decode cX12_range 14 = .ok (.ireturn, 1) := by decide +kernel
theorem dX12_range_15 : decode cX12_range 15 = .ok (.aload_n 0, 1) := by decide +kernel
theorem dX12_range_16 : decode cX12_range 16 = .ok (.iconst 0, 1) := by decide +kernel
theorem dX12_range_17 : decode cX12_range 17 = .ok (.putfield 110, 3) := by decide +kernel
theorem dX12_range_20 : decode cX12_range 20 = .ok (.aload_n 0, 1) := by decide +kernel
theorem dX12_range_21 : decode cX12_range 21 = .ok (.iconst 0, 1) := by decide +kernel
theorem dX12_range_22 : decode cX12_range 22 = .ok (.putfield 113, 3) := by decide +kernel
theorem dX12_range_25 : decode cX12_range 25 = .ok (.aload_n 0, 1) := by decide +kernel
theorem dX12_range_26 : decode cX12_range 26 = .ok (.iconst 0, 1) := by decide +kernel
theorem dX12_range_27 : decode cX12_range 27 = .ok (.putfield 187, 3) := by decide +kernel
theorem dX12_range_30 : decode cX12_range 30 = .ok (.aload_n 0, 1) := by decide +kernel
theorem dX12_range_31 : decode cX12_range 31 = .ok (.iconst 0, 1) := by decide +kernel
theorem dX12_range_32 : decode cX12_range 32 = .ok (.putfield 159, 3) := by decide +kernel
theorem dX12_range_35 : decode cX12_range 35 = .ok (.aload_n 0, 1) := by decide +kernel
theorem dX12_range_36 : decode cX12_range 36 = .ok (.getfield 65, 3) := by decide +kernel
theorem dX12_range_39 : decode cX12_range 39 = .ok (.iload_n 1, 1) := by decide +kernel
theorem dX12_range_40 : decode cX12_range 40 = .ok (.baload, 1) := by decide +kernel
theorem dX12_range_41 : decode cX12_range 41 = .ok (.ifCond .eq 40, 3) := by decide +kernel
theorem dX12_range_44 : decode cX12_range 44 = .ok (.aload_n 0, 1) := by decide +kernel
theorem dX12_range_45 : decode cX12_range 45 = .ok (.iconst 1, 1) := by decide +kernel
theorem dX12_range_46 : decode cX12_range 46 = .ok (.putfield 199, 3) := by decide +kernel
theorem dX12_range_49 : decode cX12_range 49 = .ok (.aload_n 0, 1) := by decide +kernel
theorem dX12_range_50 : decode cX12_range 50 = .ok (.aload_n 0, 1) := by decide +kernel
theorem dX12_range_51 : decode cX12_range 51 = .ok (.getfield 69, 3) := by decide +kernel
theorem dX12_range_54 : decode cX12_range 54 = .ok (.iload_n 1, 1) := by decide +kernel
theorem dX12_range_55 : decode cX12_range 55 = .ok (.laload, 1) := by decide +kernel
theorem dX12_range_56 : decode cX12_range 56 = .ok (.putfield 202, 3) := by decide +kernel
theorem dX12_range_59 : decode cX12_range 59 = .ok (.aload_n 0, 1) := by decide +kernel
theorem dX12_range_60 : decode cX12_range 60 = .ok (.aload_n 0, 1) := by decide +kernel
theorem dX12_range_61 : decode cX12_range 61 = .ok (.getfield 72, 3) := by decide +kernel
theorem dX12_range_64 : decode cX12_range 64 = .ok (.iload_n 1, 1) := by decide +kernel
theorem dX12_range_65 : decode cX12_range 65 = .ok (.laload, 1) := by decide +kernel
theorem dX12_range_66 : decode cX12_range 66 = .ok (.putfield 206, 3) := by decide +kernel
theorem dX12_range_69 : decode cX12_range 69 = .ok (.aload_n 0, 1) := by decide +kernel
theorem dX12_range_70 : decode cX12_range 70 = .ok (.aload_n 0, 1) := by decide +kernel
theorem dX12_range_71 : decode cX12_range 71 = .ok (.getfield 75, 3) := by decide +kernel
theorem dX12_range_74 : decode cX12_range 74 = .ok (.iload_n 1, 1) := by decide +kernel
theorem dX12_range_75 : decode cX12_range 75 = .ok (.laload, 1) := by decide +kernel
theorem dX12_range_76 : decode cX12_range 76 = .ok (.putfield 209, 3) := by decide +kernel
theorem dX12_range_79 : decode cX12_range 79 = .ok (.iconst 1, 1) := by decide +kernel
theorem dX12_range_80 : decode cX12_range 80 = .ok (.ireturn, 1) := by decide +kernel
theorem dX12_range_81 : decode cX12_range 81 = .ok (.aload_n 0, 1) := by decide +kernel
theorem dX12_range_82 : decode cX12_range 82 = .ok (.iload_n 1, 1) := by decide +kernel
theorem dX12_range_83 : decode cX12_range 83 = .ok (.iconst 0, 1) := by decide +kernel
theorem dX12_range_84 : decode cX12_range 84 = .ok (.invokevirtual 173, 3) := by decide +kernel
theorem dX12_range_87 : decode cX12_range 87 = .ok (.ifCond .ne 23, 3) := by decide +kernel
theorem dX12_range_90 : decode cX12_range 90 = .ok (.aload_n 0, 1) := by decide +kernel
theorem dX12_range_91 : decode cX12_range 91 = .ok (.getfield 159, 3) := by decide +kernel
theorem dX12_range_94 : decode cX12_range 94 = .ok (.ifCond .eq 8, 3) := by decide +kernel
theorem dX12_range_97 : decode cX12_range 97 = .ok (.bipush (-4), 2) := by decide +kernel
theorem dX12_range_99 : decode cX12_range 99 = .ok (.goto 10, 3) := by decide +kernel
theorem dX12_range_102 : decode cX12_range 102 = .ok (.bipush (-10), 2) := by decide +kernel
theorem dX12_range_104 : decode cX12_range 104 = .ok (.aload_n 0, 1) := by decide +kernel
theorem dX12_range_105 : decode cX12_range 105 = .ok (.getfield 113, 3) := by decide +kernel
theorem dX12_range_108 : decode cX12_range 108 = .ok (.isub, 1) := by decide +kernel
theorem dX12_range_109 : decode cX12_range 109 = .ok (.ireturn, 1) := by decide +kernel
theorem dX12_range_110 : decode cX12_range 110 = .ok (.aload_n 0, 1) := by decide +kernel
theorem dX12_range_111 : decode cX12_range 111 = .ok (.iconst 0, 1) := by decide +kernel
theorem dX12_range_112 : decode cX12_range 112 = .ok (.putfield 199, 3) := by decide +kernel
theorem dX12_range_115 : decode cX12_range 115 = .ok (.aload_n 0, 1) := by decide +kernel
theorem dX12_range_116 : decode cX12_range 116 = .ok (.lconst 0, 1) := by decide +kernel
theorem dX12_range_117 : decode cX12_range 117 = .ok (.putfield 209, 3) := by decide +kernel
theorem dX12_range_120 : decode cX12_range 120 = .ok (.iconst 0, 1) := by decide +kernel
theorem dX12_range_121 : decode cX12_range 121 = .ok (.istore_n 2, 1) := by decide +kernel
theorem dX12_range_122 : decode cX12_range 122 = .ok (.iload_n 2, 1) := by decide +kernel
theorem dX12_range_123 : decode cX12_range 123 = .ok (.aload_n 0, 1) := by decide +kernel
theorem dX12_range_124 : decode cX12_range 124 = .ok (.getfield 84, 3) := by decide +kernel
theorem dX12_range_127 : decode cX12_range 127 = .ok (.iconst 0, 1) := by decide +kernel
theorem dX12_range_128 : decode cX12_range 128 = .ok (.iaload, 1) := by decide +kernel
theorem dX12_range_129 : decode cX12_range 129 = .ok (.if_icmp .ge 47, 3) := by decide +kernel
theorem dX12_range_132 : decode cX12_range 132 = .ok (.aload_n 0, 1) := by decide +kernel
theorem dX12_range_133 : decode cX12_range 133 = .ok (.getfield 81, 3) := by decide +kernel
theorem dX12_range_136 : decode cX12_range 136 = .ok (.iload_n 2, 1) := by decide +kernel
theorem dX12_range_137 : decode cX12_range 137 = .ok (.laload, 1) := by decide +kernel
theorem dX12_range_138 : decode cX12_range 138 = .ok (.lstore_n 3, 1) := by decide +kernel
theorem dX12_range_139 : decode cX12_range 139 = .ok (.aload_n 0, 1) := by decide +kernel
theorem dX12_range_140 : decode cX12_range 140 = .ok (.lload_n 3, 1) := by decide +kernel
theorem dX12_range_141 : decode cX12_range 141 = .ok (.invokevirtual 212, 3) := by decide +kernel
theorem dX12_range_144 : decode cX12_range 144 = .ok (.lconst 0, 1) := by decide +kernel
theorem dX12_range_145 : decode cX12_range 145 = .ok (.lcmp, 1) := by decide +kernel
theorem dX12_range_146 : decode cX12_range 146 = .ok (.ifCond .ge 24, 3) := by decide +kernel
theorem dX12_range_149 : decode cX12_range 149 = .ok (.aload_n 0, 1) := by decide +kernel
theorem dX12_range_150 : decode cX12_range 150 = .ok (.getfield 96, 3) := by decide +kernel
theorem dX12_range_153 : decode cX12_range 153 = .ok (.aload_n 0, 1) := by decide +kernel
theorem dX12_range_154 : decode cX12_range 154 = .ok (.getfield 209, 3) := by decide +kernel
theorem dX12_range_157 : decode cX12_range 157 = .ok (.l2i, 1) := by decide +kernel
theorem dX12_range_158 : decode cX12_range 158 = .ok (.lload_n 3, 1) := by decide +kernel
theorem dX12_range_159 : decode cX12_range 159 = .ok (.lastore, 1) := by decide +kernel
theorem dX12_range_160 : decode cX12_range 160 = .ok (.aload_n 0, 1) := by decide +kernel
theorem dX12_range_161 : decode cX12_range 161 = .ok (.dup, 1) := by decide +kernel
theorem dX12_range_162 : decode cX12_range 162 = .ok (.getfield 209, 3) := by decide +kernel
theorem dX12_range_165 : decode cX12_range 165 = .ok (.lconst 1, 1) := by decide +kernel
theorem dX12_range_166 : decode cX12_range 166 = .ok (.ladd, 1) := by decide +kernel
theorem dX12_range_167 : decode cX12_range 167 = .ok (.putfield 209, 3) := by decide +kernel
theorem dX12_range_170 : decode cX12_range 170 = .ok (.iinc 2 1, 3) := by decide +kernel
theorem dX12_range_173 : decode cX12_range 173 = .ok (.goto (-51), 3) := by decide +kernel
theorem dX12_range_176 : decode cX12_range 176 = .ok (.iconst 1, 1) := by decide +kernel
theorem dX12_range_177 : decode cX12_range 177 = .ok (.ireturn, 1) := by decide +kernel
theorem dX12_size_0 : decode cX12_size 0 = .ok (.aload_n 0, 1) := by decide +kernel
theorem dX12_size_1 : decode cX12_size 1 = .ok (.iconst 0, 1) := by decide +kernel
theorem dX12_size_2 : decode cX12_size 2 = .ok (.putfield 99, 3) := by decide +kernel
theorem dX12_size_5 : decode cX12_size 5 = .ok (.aload_n 0, 1) := by decide +kernel
theorem dX12_size_6 : decode cX12_size 6 = .ok (.getfield 209, 3) := by decide +kernel
theorem dX12_size_9 : decode cX12_size 9 = .ok (.lreturn, 1) := by decide +kernel
theorem dX12_at_0 : decode cX12_at 0 = .ok (.aload_n 0, 1) := by decide +kernel
theorem dX12_at_1 : decode cX12_at 1 = .ok (.iconst 0, 1) := by decide +kernel
theorem dX12_at_2 : decode cX12_at 2 = .ok (.putfield 99, 3) := by decide +kernel
theorem dX12_at_5 : decode cX12_at 5 = .ok (.lload_n 1, 1) := by decide +kernel
theorem dX12_at_6 : decode cX12_at 6 = .ok (.lconst 0, 1) := by decide +kernel
theorem dX12_at_7 : decode cX12_at 7 = .ok (.lcmp, 1) := by decide +kernel
theorem dX12_at_8 : decode cX12_at 8 = .ok (.ifCond .lt 12, 3) := by decide +kernel
theorem dX12_at_11 : decode cX12_at 11 = .ok (.lload_n 1, 1) := by decide +kernel
theorem dX12_at_12 : decode cX12_at 12 = .ok (.aload_n 0, 1) := by decide +kernel
theorem dX12_at_13 : decode cX12_at 13 = .ok (.getfield 209, 3) := by decide +kernel
theorem dX12_at_16 : decode cX12_at 16 = .ok (.lcmp, 1) := by decide +kernel
theorem dX12_at_17 : decode cX12_at 17 = .ok (.ifCond .lt 10, 3) := by decide +kernel
theorem dX12_at_20 : decode cX12_at 20 = .ok (.aload_n 0, 1) := by decide +kernel
theorem dX12_at_21 : decode cX12_at 21 = .ok (.iconst 1, 1) := by decide +kernel
theorem dX12_at_22 : decode cX12_at 22 = .ok (.putfield 99, 3) := by decide +kernel
theorem dX12_at_25 : decode cX12_at 25 = .ok (.lconst 0, 1) := by decide +kernel
theorem dX12_at_26 : decode cX12_at 26 = .ok (.lreturn, 1) := by decide +kernel
theorem dX12_at_27 : decode cX12_at 27 = .ok (.aload_n 0, 1) := by decide +kernel
theorem dX12_at_28 : decode cX12_at 28 = .ok (.getfield 199, 3) := by decide +kernel
theorem dX12_at_31 : decode cX12_at 31 = .ok (.ifCond .eq 17, 3) := by decide +kernel
theorem dX12_at_34 : decode cX12_at 34 = .ok (.aload_n 0, 1) := by decide +kernel
theorem dX12_at_35 : decode cX12_at 35 = .ok (.getfield 202, 3) := by decide +kernel
theorem dX12_at_38 : decode cX12_at 38 = .ok (.lload_n 1, 1) := by decide +kernel
theorem dX12_at_39 : decode cX12_at 39 = .ok (.aload_n 0, 1) := by decide +kernel
theorem dX12_at_40 : decode cX12_at 40 = .ok (.getfield 206, 3) := by decide +kernel
theorem dX12_at_43 : decode cX12_at 43 = .ok (.lmul, 1) := by decide +kernel
theorem dX12_at_44 : decode cX12_at 44 = .ok (.ladd, 1) := by decide +kernel
theorem dX12_at_45 : decode cX12_at 45 = .ok (.goto 10, 3) := by decide +kernel
theorem dX12_at_48 : decode cX12_at 48 = .ok (.aload_n 0, 1) := by decide +kernel
theorem dX12_at_49 : decode cX12_at 49 = .ok (.getfield 96, 3) := by decide +kernel
theorem dX12_at_52 : decode cX12_at 52 = .ok (.lload_n 1, 1) := by decide +kernel
theorem dX12_at_53 : decode cX12_at 53 = .ok (.l2i, 1) := by decide +kernel
theorem dX12_at_54 : decode cX12_at 54 = .ok (.laload, 1) := by decide +kernel
theorem dX12_at_55 : decode cX12_at 55 = .ok (.lreturn, 1) := by decide +kernel
theorem dX12_place_0 : decode cX12_place 0 = .ok (.aload_n 0, 1) := by decide +kernel
theorem dX12_place_1 : decode cX12_place 1 = .ok (.iconst 0, 1) := by decide +kernel
theorem dX12_place_2 : decode cX12_place 2 = .ok (.putfield 99, 3) := by decide +kernel
theorem dX12_place_5 : decode cX12_place 5 = .ok (.aload_n 0, 1) := by decide +kernel
theorem dX12_place_6 : decode cX12_place 6 = .ok (.getfield 199, 3) := by decide +kernel
theorem dX12_place_9 : decode cX12_place 9 = .ok (.ifCond .ne 38, 3) := by decide +kernel
theorem dX12_place_12 : decode cX12_place 12 = .ok (.iconst 0, 1) := by decide +kernel
theorem dX12_place_13 : decode cX12_place 13 = .ok (.istore_n 3, 1) := by decide +kernel
theorem dX12_place_14 : decode cX12_place 14 = .ok (.iload_n 3, 1) := by decide +kernel
theorem dX12_place_15 : decode cX12_place 15 = .ok (.aload_n 0, 1) := by decide +kernel
theorem dX12_place_16 : decode cX12_place 16 = .ok (.getfield 209, 3) := by decide +kernel
theorem dX12_place_19 : decode cX12_place 19 = .ok (.l2i, 1) := by decide +kernel
theorem dX12_place_20 : decode cX12_place 20 = .ok (.if_icmp .ge 23, 3) := by decide +kernel
theorem dX12_place_23 : decode cX12_place 23 = .ok (.aload_n 0, 1) := by decide +kernel
theorem dX12_place_24 : decode cX12_place 24 = .ok (.getfield 96, 3) := by decide +kernel
theorem dX12_place_27 : decode cX12_place 27 = .ok (.iload_n 3, 1) := by decide +kernel
theorem dX12_place_28 : decode cX12_place 28 = .ok (.laload, 1) := by decide +kernel
theorem dX12_place_29 : decode cX12_place 29 = .ok (.lload_n 1, 1) := by decide +kernel
theorem dX12_place_30 : decode cX12_place 30 = .ok (.lcmp, 1) := by decide +kernel
theorem dX12_place_31 : decode cX12_place 31 = .ok (.ifCond .ne 6, 3) := by decide +kernel
theorem dX12_place_34 : decode cX12_place 34 = .ok (.iload_n 3, 1) := by decide +kernel
theorem dX12_place_35 : decode cX12_place 35 = .ok (.i2l, 1) := by decide +kernel
theorem dX12_place_36 : decode cX12_place 36 = .ok (.lreturn, 1) := by decide +kernel
theorem dX12_place_37 : decode cX12_place 37 = .ok (.iinc 3 1, 3) := by decide +kernel
theorem dX12_place_40 : decode cX12_place 40 = .ok (.goto (-26), 3) := by decide +kernel
theorem dX12_place_43 : decode cX12_place 43 = .ok (.ldc2_w 123, 3) := by decide +kernel
theorem dX12_place_46 : decode cX12_place 46 = .ok (.lreturn, 1) := by decide +kernel
theorem dX12_place_47 : decode cX12_place 47 = .ok (.aload_n 0, 1) := by decide +kernel
theorem dX12_place_48 : decode cX12_place 48 = .ok (.getfield 209, 3) := by decide +kernel
theorem dX12_place_51 : decode cX12_place 51 = .ok (.lconst 0, 1) := by decide +kernel
theorem dX12_place_52 : decode cX12_place 52 = .ok (.lcmp, 1) := by decide +kernel
theorem dX12_place_53 : decode cX12_place 53 = .ok (.ifCond .ne 7, 3) := by decide +kernel
theorem dX12_place_56 : decode cX12_place 56 = .ok (.ldc2_w 123, 3) := by decide +kernel
theorem dX12_place_59 : decode cX12_place 59 = .ok (.lreturn, 1) := by decide +kernel
theorem dX12_place_60 : decode cX12_place 60 = .ok (.aload_n 0, 1) := by decide +kernel
theorem dX12_place_61 : decode cX12_place 61 = .ok (.getfield 209, 3) := by decide +kernel
theorem dX12_place_64 : decode cX12_place 64 = .ok (.lconst 1, 1) := by decide +kernel
theorem dX12_place_65 : decode cX12_place 65 = .ok (.lcmp, 1) := by decide +kernel
theorem dX12_place_66 : decode cX12_place 66 = .ok (.ifCond .ne 20, 3) := by decide +kernel
theorem dX12_place_69 : decode cX12_place 69 = .ok (.lload_n 1, 1) := by decide +kernel
theorem dX12_place_70 : decode cX12_place 70 = .ok (.aload_n 0, 1) := by decide +kernel
theorem dX12_place_71 : decode cX12_place 71 = .ok (.getfield 202, 3) := by decide +kernel
theorem dX12_place_74 : decode cX12_place 74 = .ok (.lcmp, 1) := by decide +kernel
theorem dX12_place_75 : decode cX12_place 75 = .ok (.ifCond .ne 7, 3) := by decide +kernel
theorem dX12_place_78 : decode cX12_place 78 = .ok (.lconst 0, 1) := by decide +kernel
theorem dX12_place_79 : decode cX12_place 79 = .ok (.goto 6, 3) := by decide +kernel
theorem dX12_place_82 : decode cX12_place 82 = .ok (.ldc2_w 123, 3) := by decide +kernel
theorem dX12_place_85 : decode cX12_place 85 = .ok (.lreturn, 1) := by decide +kernel
theorem dX12_place_86 : decode cX12_place 86 = .ok (.aload_n 0, 1) := by decide +kernel
theorem dX12_place_87 : decode cX12_place 87 = .ok (.getfield 202, 3) := by decide +kernel
theorem dX12_place_90 : decode cX12_place 90 = .ok (.aload_n 0, 1) := by decide +kernel
theorem dX12_place_91 : decode cX12_place 91 = .ok (.getfield 209, 3) := by decide +kernel
theorem dX12_place_94 : decode cX12_place 94 = .ok (.lconst 1, 1) := by decide +kernel
theorem dX12_place_95 : decode cX12_place 95 = .ok (.lsub, 1) := by decide +kernel
theorem dX12_place_96 : decode cX12_place 96 = .ok (.aload_n 0, 1) := by decide +kernel
theorem dX12_place_97 : decode cX12_place 97 = .ok (.getfield 206, 3) := by decide +kernel
theorem dX12_place_100 : decode cX12_place 100 = .ok (.lmul, 1) := by decide +kernel
theorem dX12_place_101 : decode cX12_place 101 = .ok (.ladd, 1) := by decide +kernel
theorem dX12_place_102 : decode cX12_place 102 = .ok (.lstore_n 3, 1) := by decide +kernel
theorem dX12_place_103 : decode cX12_place 103 = .ok (.lload_n 3, 1) := by decide +kernel
theorem dX12_place_104 : decode cX12_place 104 = .ok (.aload_n 0, 1) := by decide +kernel
theorem dX12_place_105 : decode cX12_place 105 = .ok (.getfield 202, 3) := by decide +kernel
theorem dX12_place_108 : decode cX12_place 108 = .ok (.lcmp, 1) := by decide +kernel
theorem dX12_place_109 : decode cX12_place 109 = .ok (.ifCond .le 7, 3) := by decide +kernel
theorem dX12_place_112 : decode cX12_place 112 = .ok (.iconst 1, 1) := by decide +kernel
theorem dX12_place_113 : decode cX12_place 113 = .ok (.goto 4, 3) := by decide +kernel
theorem dX12_place_116 : decode cX12_place 116 = .ok (.iconst 0, 1) := by decide +kernel
theorem dX12_place_117 : decode cX12_place 117 = .ok (.istore 5, 2) := by decide +kernel
theorem dX12_place_119 : decode cX12_place 119 = .ok (.lload_n 1, 1) := by decide +kernel
theorem dX12_place_120 : decode cX12_place 120 = .ok (.iload 5, 2) := by decide +kernel
theorem dX12_place_122 : decode cX12_place 122 = .ok (.ifCond .eq 10, 3) := by decide +kernel
theorem dX12_place_125 : decode cX12_place 125 = .ok (.aload_n 0, 1) := by decide +kernel
theorem dX12_place_126 : decode cX12_place 126 = .ok (.getfield 202, 3) := by decide +kernel
theorem dX12_place_129 : decode cX12_place 129 = .ok (.goto 4, 3) := by decide +kernel
theorem dX12_place_132 : decode cX12_place 132 = .ok (.lload_n 3, 1) := by decide +kernel
theorem dX12_place_133 : decode cX12_place 133 = .ok (.lcmp, 1) := by decide +kernel
theorem dX12_place_134 : decode cX12_place 134 = .ok (.ifCond .lt 21, 3) := by decide +kernel
theorem dX12_place_137 : decode cX12_place 137 = .ok (.lload_n 1, 1) := by decide +kernel
theorem dX12_place_138 : decode cX12_place 138 = .ok (.iload 5, 2) := by decide +kernel
theorem dX12_place_140 : decode cX12_place 140 = .ok (.ifCond .eq 7, 3) := by decide +kernel
theorem dX12_place_143 : decode cX12_place 143 = .ok (.lload_n 3, 1) := by decide +kernel
theorem dX12_place_144 : decode cX12_place 144 = .ok (.goto 7, 3) := by decide +kernel
theorem dX12_place_147 : decode cX12_place 147 = .ok (.aload_n 0, 1) := by decide +kernel
theorem dX12_place_148 : decode cX12_place 148 = .ok (.getfield 202, 3) := by decide +kernel
theorem dX12_place_151 : decode cX12_place 151 = .ok (.lcmp, 1) := by decide +kernel
theorem dX12_place_152 : decode cX12_place 152 = .ok (.ifCond .le 7, 3) := by decide +kernel
theorem dX12_place_155 : decode cX12_place 155 = .ok (.ldc2_w 123, 3) := by decide +kernel
theorem dX12_place_158 : decode cX12_place 158 = .ok (.lreturn, 1) := by decide +kernel
theorem dX12_place_159 : decode cX12_place 159 = .ok (.iload 5, 2) := by decide +kernel
theorem dX12_place_161 : decode cX12_place 161 = .ok (.ifCond .eq 10, 3) := by decide +kernel
theorem dX12_place_164 : decode cX12_place 164 = .ok (.aload_n 0, 1) := by decide +kernel
theorem dX12_place_165 : decode cX12_place 165 = .ok (.getfield 206, 3) := by decide +kernel
theorem dX12_place_168 : decode cX12_place 168 = .ok (.goto 8, 3) := by decide +kernel
theorem dX12_place_171 : decode cX12_place 171 = .ok (.aload_n 0, 1) := by decide +kernel
theorem dX12_place_172 : decode cX12_place 172 = .ok (.getfield 206, 3) := by decide +kernel
theorem dX12_place_175 : decode cX12_place 175 = .ok (.lneg, 1) := by decide +kernel
theorem dX12_place_176 : decode cX12_place 176 = .ok (.lstore 6, 2) := by decide +kernel
theorem dX12_place_178 : decode cX12_place 178 = .ok (.lload_n 1, 1) := by decide +kernel
theorem dX12_place_179 : decode cX12_place 179 = .ok (.aload_n 0, 1) := by decide +kernel
theorem dX12_place_180 : decode cX12_place 180 = .ok (.getfield 202, 3) := by decide +kernel
theorem dX12_place_183 : decode cX12_place 183 = .ok (.invokestatic 190, 3) := by decide +kernel
theorem dX12_place_186 : decode cX12_place 186 = .ok (.lstore 8, 2) := by decide +kernel
theorem dX12_place_188 : decode cX12_place 188 = .ok (.lload 6, 2) := by decide +kernel
theorem dX12_place_190 : decode cX12_place 190 = .ok (.lconst 0, 1) := by decide +kernel
theorem dX12_place_191 : decode cX12_place 191 = .ok (.lcmp, 1) := by decide +kernel
theorem dX12_place_192 : decode cX12_place 192 = .ok (.ifCond .le 13, 3) := by decide +kernel
theorem dX12_place_195 : decode cX12_place 195 = .ok (.lload 8, 2) := by decide +kernel
theorem dX12_place_197 : decode cX12_place 197 = .ok (.lload 6, 2) := by decide +kernel
theorem dX12_place_199 : decode cX12_place 199 = .ok (.invokestatic 142, 3) := by decide +kernel
theorem dX12_place_202 : decode cX12_place 202 = .ok (.goto 24, 3) := by decide +kernel
theorem dX12_place_205 : decode cX12_place 205 = .ok (.lload 8, 2) := by decide +kernel
theorem dX12_place_207 : decode cX12_place 207 = .ok (.ldc2_w 193, 3) := by decide +kernel
theorem dX12_place_210 : decode cX12_place 210 = .ok (.lxor, 1) := by decide +kernel
theorem dX12_place_211 : decode cX12_place 211 = .ok (.lload 6, 2) := by decide +kernel
theorem dX12_place_213 : decode cX12_place 213 = .ok (.ldc2_w 193, 3) := by decide +kernel
theorem dX12_place_216 : decode cX12_place 216 = .ok (.lxor, 1) := by decide +kernel
theorem dX12_place_217 : decode cX12_place 217 = .ok (.lcmp, 1) := by decide +kernel
theorem dX12_place_218 : decode cX12_place 218 = .ok (.ifCond .lt 7, 3) := by decide +kernel
theorem dX12_place_221 : decode cX12_place 221 = .ok (.lconst 1, 1) := by decide +kernel
theorem dX12_place_222 : decode cX12_place 222 = .ok (.goto 4, 3) := by decide +kernel
theorem dX12_place_225 : decode cX12_place 225 = .ok (.lconst 0, 1) := by decide +kernel
theorem dX12_place_226 : decode cX12_place 226 = .ok (.lstore 10, 2) := by decide +kernel
theorem dX12_place_228 : decode cX12_place 228 = .ok (.aload_n 0, 1) := by decide +kernel
theorem dX12_place_229 : decode cX12_place 229 = .ok (.getfield 202, 3) := by decide +kernel
theorem dX12_place_232 : decode cX12_place 232 = .ok (.lload 10, 2) := by decide +kernel
theorem dX12_place_234 : decode cX12_place 234 = .ok (.aload_n 0, 1) := by decide +kernel
theorem dX12_place_235 : decode cX12_place 235 = .ok (.getfield 206, 3) := by decide +kernel
theorem dX12_place_238 : decode cX12_place 238 = .ok (.lmul, 1) := by decide +kernel
theorem dX12_place_239 : decode cX12_place 239 = .ok (.ladd, 1) := by decide +kernel
theorem dX12_place_240 : decode cX12_place 240 = .ok (.lload_n 1, 1) := by decide +kernel
theorem dX12_place_241 : decode cX12_place 241 = .ok (.lcmp, 1) := by decide +kernel
theorem dX12_place_242 : decode cX12_place 242 = .ok (.ifCond .ne 8, 3) := by decide +kernel
theorem dX12_place_245 : decode cX12_place 245 = .ok (.lload 10, 2) := by decide +kernel
theorem dX12_place_247 : decode cX12_place 247 = .ok (.goto 6, 3) := by decide +kernel
theorem dX12_place_250 : decode cX12_place 250 = .ok (.ldc2_w 123, 3) := by decide +kernel
theorem dX12_place_253 : decode cX12_place 253 = .ok (.lreturn, 1) := by decide +kernel
theorem dX12_draw_0 : decode cX12_draw 0 = .ok (.aload_n 0, 1) := by decide +kernel
theorem dX12_draw_1 : decode cX12_draw 1 = .ok (.iconst 0, 1) := by decide +kernel
theorem dX12_draw_2 : decode cX12_draw 2 = .ok (.putfield 99, 3) := by decide +kernel
theorem dX12_draw_5 : decode cX12_draw 5 = .ok (.aload_n 0, 1) := by decide +kernel
theorem dX12_draw_6 : decode cX12_draw 6 = .ok (.getfield 209, 3) := by decide +kernel
theorem dX12_draw_9 : decode cX12_draw 9 = .ok (.lconst 0, 1) := by decide +kernel
theorem dX12_draw_10 : decode cX12_draw 10 = .ok (.lcmp, 1) := by decide +kernel
theorem dX12_draw_11 : decode cX12_draw 11 = .ok (.ifCond .ne 10, 3) := by decide +kernel
theorem dX12_draw_14 : decode cX12_draw 14 = .ok (.aload_n 0, 1) := by decide +kernel
theorem dX12_draw_15 : decode cX12_draw 15 = .ok (.iconst 1, 1) := by decide +kernel
theorem dX12_draw_16 : decode cX12_draw 16 = .ok (.putfield 99, 3) := by decide +kernel
theorem dX12_draw_19 : decode cX12_draw 19 = .ok (.lconst 0, 1) := by decide +kernel
theorem dX12_draw_20 : decode cX12_draw 20 = .ok (.lreturn, 1) := by decide +kernel
theorem dX12_draw_21 : decode cX12_draw 21 = .ok (.lload_n 1, 1) := by decide +kernel
theorem dX12_draw_22 : decode cX12_draw 22 = .ok (.aload_n 0, 1) := by decide +kernel
theorem dX12_draw_23 : decode cX12_draw 23 = .ok (.getfield 209, 3) := by decide +kernel
theorem dX12_draw_26 : decode cX12_draw 26 = .ok (.invokestatic 142, 3) := by decide +kernel
theorem dX12_draw_29 : decode cX12_draw 29 = .ok (.lstore_n 3, 1) := by decide +kernel
theorem dX12_draw_30 : decode cX12_draw 30 = .ok (.aload_n 0, 1) := by decide +kernel
theorem dX12_draw_31 : decode cX12_draw 31 = .ok (.lload_n 1, 1) := by decide +kernel
theorem dX12_draw_32 : decode cX12_draw 32 = .ok (.lload_n 3, 1) := by decide +kernel
theorem dX12_draw_33 : decode cX12_draw 33 = .ok (.aload_n 0, 1) := by decide +kernel
theorem dX12_draw_34 : decode cX12_draw 34 = .ok (.getfield 209, 3) := by decide +kernel
theorem dX12_draw_37 : decode cX12_draw 37 = .ok (.lmul, 1) := by decide +kernel
theorem dX12_draw_38 : decode cX12_draw 38 = .ok (.lsub, 1) := by decide +kernel
theorem dX12_draw_39 : decode cX12_draw 39 = .ok (.invokevirtual 216, 3) := by decide +kernel
theorem dX12_draw_42 : decode cX12_draw 42 = .ok (.lreturn, 1) := by decide +kernel
theorem dX12_barred_0 : decode cX12_barred 0 = .ok (.aload_n 0, 1) := by decide +kernel
theorem dX12_barred_1 : decode cX12_barred 1 = .ok (.iconst 0, 1) := by decide +kernel
theorem dX12_barred_2 : decode cX12_barred 2 = .ok (.putfield 99, 3) := by decide +kernel
theorem dX12_barred_5 : decode cX12_barred 5 = .ok (.aload_n 0, 1) := by decide +kernel
theorem dX12_barred_6 : decode cX12_barred 6 = .ok (.getfield 187, 3) := by decide +kernel
theorem dX12_barred_9 : decode cX12_barred 9 = .ok (.ireturn, 1) := by decide +kernel
theorem dX12_bar_0 : decode cX12_bar 0 = .ok (.aload_n 0, 1) := by decide +kernel
theorem dX12_bar_1 : decode cX12_bar 1 = .ok (.iconst 0, 1) := by decide +kernel
theorem dX12_bar_2 : decode cX12_bar 2 = .ok (.putfield 99, 3) := by decide +kernel
theorem dX12_bar_5 : decode cX12_bar 5 = .ok (.iload_n 1, 1) := by decide +kernel
theorem dX12_bar_6 : decode cX12_bar 6 = .ok (.ifCond .lt 11, 3) := by decide +kernel
theorem dX12_bar_9 : decode cX12_bar 9 = .ok (.iload_n 1, 1) := by decide +kernel
theorem dX12_bar_10 : decode cX12_bar 10 = .ok (.aload_n 0, 1) := by decide +kernel
theorem dX12_bar_11 : decode cX12_bar 11 = .ok (.getfield 187, 3) := by decide +kernel
theorem dX12_bar_14 : decode cX12_bar 14 = .ok (.if_icmp .lt 5, 3) := by decide +kernel
theorem dX12_bar_17 : decode cX12_bar 17 = .ok (.iconst (-1), 1) := by decide +kernel
theorem dX12_bar_18 : decode cX12_bar 18 = .ok (.ireturn, 1) := by decide +kernel
theorem dX12_bar_19 : decode cX12_bar 19 = .ok (.iload_n 2, 1) := by decide +kernel
theorem dX12_bar_20 : decode cX12_bar 20 = .ok (.ifCond .ne 12, 3) := by decide +kernel
theorem dX12_bar_23 : decode cX12_bar 23 = .ok (.aload_n 0, 1) := by decide +kernel
theorem dX12_bar_24 : decode cX12_bar 24 = .ok (.getfield 90, 3) := by decide +kernel
theorem dX12_bar_27 : decode cX12_bar 27 = .ok (.iload_n 1, 1) := by decide +kernel
theorem dX12_bar_28 : decode cX12_bar 28 = .ok (.iaload, 1) := by decide +kernel
theorem dX12_bar_29 : decode cX12_bar 29 = .ok (.goto 19, 3) := by decide +kernel
theorem dX12_bar_32 : decode cX12_bar 32 = .ok (.iload_n 2, 1) := by decide +kernel
theorem dX12_bar_33 : decode cX12_bar 33 = .ok (.iconst 1, 1) := by decide +kernel
theorem dX12_bar_34 : decode cX12_bar 34 = .ok (.if_icmp .ne 12, 3) := by decide +kernel
theorem dX12_bar_37 : decode cX12_bar 37 = .ok (.aload_n 0, 1) := by decide +kernel
theorem dX12_bar_38 : decode cX12_bar 38 = .ok (.getfield 93, 3) := by decide +kernel
theorem dX12_bar_41 : decode cX12_bar 41 = .ok (.iload_n 1, 1) := by decide +kernel
theorem dX12_bar_42 : decode cX12_bar 42 = .ok (.iaload, 1) := by decide +kernel
theorem dX12_bar_43 : decode cX12_bar 43 = .ok (.goto 5, 3) := by decide +kernel
theorem dX12_bar_46 : decode cX12_bar 46 = .ok (.bipush (-2), 2) := by decide +kernel
theorem dX12_bar_48 : decode cX12_bar 48 = .ok (.ireturn, 1) := by decide +kernel
theorem dX12_barredAt_0 : decode cX12_barredAt 0 = .ok (.aload_n 0, 1) := by decide +kernel
theorem dX12_barredAt_1 : decode cX12_barredAt 1 = .ok (.iconst 0, 1) := by decide +kernel
theorem dX12_barredAt_2 : decode cX12_barredAt 2 = .ok (.putfield 99, 3) := by decide +kernel
theorem dX12_barredAt_5 : decode cX12_barredAt 5 = .ok (.iload_n 1, 1) := by decide +kernel
theorem dX12_barredAt_6 : decode cX12_barredAt 6 = .ok (.ifCond .lt 11, 3) := by decide +kernel
theorem dX12_barredAt_9 : decode cX12_barredAt 9 = .ok (.iload_n 1, 1) := by decide +kernel
theorem dX12_barredAt_10 : decode cX12_barredAt 10 = .ok (.aload_n 0, 1) := by decide +kernel
theorem dX12_barredAt_11 : decode cX12_barredAt 11 = .ok (.getfield 187, 3) := by decide +kernel
theorem dX12_barredAt_14 : decode cX12_barredAt 14 = .ok (.if_icmp .lt 10, 3) := by decide +kernel
theorem dX12_barredAt_17 : decode cX12_barredAt 17 = .ok (.aload_n 0, 1) := by decide +kernel
theorem dX12_barredAt_18 : decode cX12_barredAt 18 = .ok (.iconst 1, 1) := by decide +kernel
theorem dX12_barredAt_19 : decode cX12_barredAt 19 = .ok (.putfield 99, 3) := by decide +kernel
theorem dX12_barredAt_22 : decode cX12_barredAt 22 = .ok (.lconst 0, 1) := by decide +kernel
theorem dX12_barredAt_23 : decode cX12_barredAt 23 = .ok (.lreturn, 1) := by decide +kernel
theorem dX12_barredAt_24 : decode cX12_barredAt 24 = .ok (.aload_n 0, 1) := by decide +kernel
theorem dX12_barredAt_25 : decode cX12_barredAt 25 = .ok (.getfield 87, 3) := by decide +kernel
theorem dX12_barredAt_28 : decode cX12_barredAt 28 = .ok (.iload_n 1, 1) := by decide +kernel
theorem dX12_barredAt_29 : decode cX12_barredAt 29 = .ok (.laload, 1) := by decide +kernel
theorem dX12_barredAt_30 : decode cX12_barredAt 30 = .ok (.lreturn, 1) := by decide +kernel
theorem dX12_distance_0 : decode cX12_distance 0 = .ok (.aload_n 0, 1) := by decide +kernel
theorem dX12_distance_1 : decode cX12_distance 1 = .ok (.iconst 0, 1) := by decide +kernel
theorem dX12_distance_2 : decode cX12_distance 2 = .ok (.putfield 99, 3) := by decide +kernel
theorem dX12_distance_5 : decode cX12_distance 5 = .ok (.lload_n 1, 1) := by decide +kernel
theorem dX12_distance_6 : decode cX12_distance 6 = .ok (.lload_n 3, 1) := by decide +kernel
theorem dX12_distance_7 : decode cX12_distance 7 = .ok (.invokestatic 190, 3) := by decide +kernel
theorem dX12_distance_10 : decode cX12_distance 10 = .ok (.lreturn, 1) := by decide +kernel
theorem dX12_told_0 : decode cX12_told 0 = .ok (.aload_n 0, 1) := by decide +kernel
theorem dX12_told_1 : decode cX12_told 1 = .ok (.iconst 0, 1) := by decide +kernel
theorem dX12_told_2 : decode cX12_told 2 = .ok (.putfield 99, 3) := by decide +kernel
theorem dX12_told_5 : decode cX12_told 5 = .ok (.iload_n 1, 1) := by decide +kernel
theorem dX12_told_6 : decode cX12_told 6 = .ok (.tableswitch 58 0 3 #[30, 35, 40, 45], 30) := by decide +kernel
theorem dX12_told_36 : decode cX12_told 36 = .ok (.aload_n 0, 1) := by decide +kernel
theorem dX12_told_37 : decode cX12_told 37 = .ok (.getfield 103, 3) := by decide +kernel
theorem dX12_told_40 : decode cX12_told 40 = .ok (.ireturn, 1) := by decide +kernel
theorem dX12_told_41 : decode cX12_told 41 = .ok (.aload_n 0, 1) := by decide +kernel
theorem dX12_told_42 : decode cX12_told 42 = .ok (.getfield 137, 3) := by decide +kernel
theorem dX12_told_45 : decode cX12_told 45 = .ok (.ireturn, 1) := by decide +kernel
theorem dX12_told_46 : decode cX12_told 46 = .ok (.aload_n 0, 1) := by decide +kernel
theorem dX12_told_47 : decode cX12_told 47 = .ok (.getfield 110, 3) := by decide +kernel
theorem dX12_told_50 : decode cX12_told 50 = .ok (.ireturn, 1) := by decide +kernel
theorem dX12_told_51 : decode cX12_told 51 = .ok (.aload_n 0, 1) := by decide +kernel
theorem dX12_told_52 : decode cX12_told 52 = .ok (.getfield 199, 3) := by decide +kernel
theorem dX12_told_55 : decode cX12_told 55 = .ok (.ifCond .eq 7, 3) := by decide +kernel
theorem dX12_told_58 : decode cX12_told 58 = .ok (.iconst 1, 1) := by decide +kernel
theorem dX12_told_59 : decode cX12_told 59 = .ok (.goto 4, 3) := by decide +kernel
theorem dX12_told_62 : decode cX12_told 62 = .ok (.iconst 0, 1) := by decide +kernel
theorem dX12_told_63 : decode cX12_told 63 = .ok (.ireturn, 1) := by decide +kernel
theorem dX12_told_64 : decode cX12_told 64 = .ok (.bipush (-2), 2) := by decide +kernel
theorem dX12_told_66 : decode cX12_told 66 = .ok (.ireturn, 1) := by decide +kernel
