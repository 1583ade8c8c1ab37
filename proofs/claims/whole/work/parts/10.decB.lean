theorem dX3_in_0 : decode cX3_in 0 = .ok (.iload_n 0, 1) := by decide +kernel
theorem dX3_in_1 : decode cX3_in 1 = .ok (.iload_n 1, 1) := by decide +kernel
theorem dX3_in_2 : decode cX3_in 2 = .ok (.if_icmp .lt 12, 3) := by decide +kernel
theorem dX3_in_5 : decode cX3_in 5 = .ok (.iload_n 0, 1) := by decide +kernel
theorem dX3_in_6 : decode cX3_in 6 = .ok (.iload_n 2, 1) := by decide +kernel
theorem dX3_in_7 : decode cX3_in 7 = .ok (.if_icmp .gt 7, 3) := by decide +kernel
theorem dX3_in_10 : decode cX3_in 10 = .ok (.iconst 1, 1) := by decide +kernel
theorem dX3_in_11 : decode cX3_in 11 = .ok (.goto 4, 3) := by decide +kernel
theorem dX3_in_14 : decode cX3_in 14 = .ok (.iconst 0, 1) := by decide +kernel
theorem dX3_in_15 : decode cX3_in 15 = .ok (.ireturn, 1) := by decide +kernel
theorem dX3_init_0 : decode cX3_init 0 = .ok (.aload_n 0, 1) := by decide +kernel
theorem dX3_init_1 : decode cX3_init 1 = .ok (.invokespecial 1, 3) := by decide +kernel
theorem dX3_init_4 : decode cX3_init 4 = .ok (.aload_n 0, 1) := by decide +kernel
theorem dX3_init_5 : decode cX3_init 5 = .ok (.bipush 60, 2) := by decide +kernel
theorem dX3_init_7 : decode cX3_init 7 = .ok (.newarray .int, 2) := by decide +kernel
theorem dX3_init_9 : decode cX3_init 9 = .ok (.putfield 7, 3) := by decide +kernel
theorem dX3_init_12 : decode cX3_init 12 = .ok (.aload_n 0, 1) := by decide +kernel
theorem dX3_init_13 : decode cX3_init 13 = .ok (.bipush 60, 2) := by decide +kernel
theorem dX3_init_15 : decode cX3_init 15 = .ok (.newarray .int, 2) := by decide +kernel
theorem dX3_init_17 : decode cX3_init 17 = .ok (.putfield 13, 3) := by decide +kernel
theorem dX3_init_20 : decode cX3_init 20 = .ok (.aload_n 0, 1) := by decide +kernel
theorem dX3_init_21 : decode cX3_init 21 = .ok (.bipush 60, 2) := by decide +kernel
theorem dX3_init_23 : decode cX3_init 23 = .ok (.newarray .int, 2) := by decide +kernel
theorem dX3_init_25 : decode cX3_init 25 = .ok (.putfield 16, 3) := by decide +kernel
theorem dX3_init_28 : decode cX3_init 28 = .ok (.aload_n 0, 1) := by decide +kernel
theorem dX3_init_29 : decode cX3_init 29 = .ok (.bipush 60, 2) := by decide +kernel
theorem dX3_init_31 : decode cX3_init 31 = .ok (.newarray .int, 2) := by decide +kernel
theorem dX3_init_33 : decode cX3_init 33 = .ok (.putfield 19, 3) := by decide +kernel
theorem dX3_init_36 : decode cX3_init 36 = .ok (.aload_n 0, 1) := by decide +kernel
theorem dX3_init_37 : decode cX3_init 37 = .ok (.sipush 480, 3) := by decide +kernel
theorem dX3_init_40 : decode cX3_init 40 = .ok (.newarray .int, 2) := by decide +kernel
theorem dX3_init_42 : decode cX3_init 42 = .ok (.putfield 22, 3) := by decide +kernel
theorem dX3_init_45 : decode cX3_init 45 = .ok (.aload_n 0, 1) := by decide +kernel
theorem dX3_init_46 : decode cX3_init 46 = .ok (.bipush 60, 2) := by decide +kernel
theorem dX3_init_48 : decode cX3_init 48 = .ok (.newarray .int, 2) := by decide +kernel
theorem dX3_init_50 : decode cX3_init 50 = .ok (.putfield 25, 3) := by decide +kernel
theorem dX3_init_53 : decode cX3_init 53 = .ok (.aload_n 0, 1) := by decide +kernel
theorem dX3_init_54 : decode cX3_init 54 = .ok (.bipush 60, 2) := by decide +kernel
theorem dX3_init_56 : decode cX3_init 56 = .ok (.newarray .int, 2) := by decide +kernel
theorem dX3_init_58 : decode cX3_init 58 = .ok (.putfield 28, 3) := by decide +kernel
theorem dX3_init_61 : decode cX3_init 61 = .ok (.aload_n 0, 1) := by decide +kernel
theorem dX3_init_62 : decode cX3_init 62 = .ok (.bipush 32, 2) := by decide +kernel
theorem dX3_init_64 : decode cX3_init 64 = .ok (.newarray .int, 2) := by decide +kernel
theorem dX3_init_66 : decode cX3_init 66 = .ok (.putfield 31, 3) := by decide +kernel
theorem dX3_init_69 : decode cX3_init 69 = .ok (.aload_n 0, 1) := by decide +kernel
theorem dX3_init_70 : decode cX3_init 70 = .ok (.bipush 6, 2) := by decide +kernel
theorem dX3_init_72 : decode cX3_init 72 = .ok (.newarray .int, 2) := by decide +kernel
theorem dX3_init_74 : decode cX3_init 74 = .ok (.putfield 34, 3) := by decide +kernel
theorem dX3_init_77 : decode cX3_init 77 = .ok (.aload_n 0, 1) := by decide +kernel
theorem dX3_init_78 : decode cX3_init 78 = .ok (.bipush 104, 2) := by decide +kernel
theorem dX3_init_80 : decode cX3_init 80 = .ok (.newarray .int, 2) := by decide +kernel
theorem dX3_init_82 : decode cX3_init 82 = .ok (.putfield 37, 3) := by decide +kernel
theorem dX3_init_85 : decode cX3_init 85 = .ok (.aload_n 0, 1) := by decide +kernel
theorem dX3_init_86 : decode cX3_init 86 = .ok (.bipush 104, 2) := by decide +kernel
theorem dX3_init_88 : decode cX3_init 88 = .ok (.newarray .int, 2) := by decide +kernel
theorem dX3_init_90 : decode cX3_init 90 = .ok (.putfield 40, 3) := by decide +kernel
theorem dX3_init_93 : decode cX3_init 93 = .ok (.aload_n 0, 1) := by decide +kernel
theorem dX3_init_94 : decode cX3_init 94 = .ok (.bipush 104, 2) := by decide +kernel
theorem dX3_init_96 : decode cX3_init 96 = .ok (.newarray .int, 2) := by decide +kernel
theorem dX3_init_98 : decode cX3_init 98 = .ok (.putfield 43, 3) := by decide +kernel
theorem dX3_init_101 : decode cX3_init 101 = .ok (.aload_n 0, 1) := by decide +kernel
theorem dX3_init_102 : decode cX3_init 102 = .ok (.bipush 104, 2) := by decide +kernel
theorem dX3_init_104 : decode cX3_init 104 = .ok (.newarray .int, 2) := by decide +kernel
theorem dX3_init_106 : decode cX3_init 106 = .ok (.putfield 46, 3) := by decide +kernel
theorem dX3_init_109 : decode cX3_init 109 = .ok (.aload_n 0, 1) := by decide +kernel
theorem dX3_init_110 : decode cX3_init 110 = .ok (.bipush 104, 2) := by decide +kernel
theorem dX3_init_112 : decode cX3_init 112 = .ok (.newarray .int, 2) := by decide +kernel
theorem dX3_init_114 : decode cX3_init 114 = .ok (.putfield 49, 3) := by decide +kernel
theorem dX3_init_117 : decode cX3_init 117 = .ok (.aload_n 0, 1) := by decide +kernel
theorem dX3_init_118 : decode cX3_init 118 = .ok (.sipush 144, 3) := by decide +kernel
theorem dX3_init_121 : decode cX3_init 121 = .ok (.newarray .int, 2) := by decide +kernel
theorem dX3_init_123 : decode cX3_init 123 = .ok (.putfield 52, 3) := by decide +kernel
theorem dX3_init_126 : decode cX3_init 126 = .ok (.iconst 0, 1) := by decide +kernel
theorem dX3_init_127 : decode cX3_init 127 = .ok (.istore_n 1, 1) := by decide +kernel
theorem dX3_init_128 : decode cX3_init 128 = .ok (.iload_n 1, 1) := by decide +kernel
theorem dX3_init_129 : decode cX3_init 129 = .ok (.bipush 32, 2) := by decide +kernel
theorem dX3_init_131 : decode cX3_init 131 = .ok (.if_icmp .ge 19, 3) := by decide +kernel
theorem dX3_init_134 : decode cX3_init 134 = .ok (.aload_n 0, 1) := by decide +kernel
theorem dX3_init_135 : decode cX3_init 135 = .ok (.getfield 31, 3) := by decide +kernel
theorem dX3_init_138 : decode cX3_init 138 = .ok (.iload_n 1, 1) := by decide +kernel
theorem dX3_init_139 : decode cX3_init 139 = .ok (.iload_n 1, 1) := by decide +kernel
theorem dX3_init_140 : decode cX3_init 140 = .ok (.bipush 8, 2) := by decide +kernel
theorem dX3_init_142 : decode cX3_init 142 = .ok (.irem, 1) := by decide +kernel
theorem dX3_init_143 : decode cX3_init 143 = .ok (.iastore, 1) := by decide +kernel
theorem dX3_init_144 : decode cX3_init 144 = .ok (.iinc 1 1, 3) := by decide +kernel
theorem dX3_init_147 : decode cX3_init 147 = .ok (.goto (-19), 3) := by decide +kernel
theorem dX3_init_150 : decode cX3_init 150 = .ok (.iconst 0, 1) := by decide +kernel
theorem dX3_init_151 : decode cX3_init 151 = .ok (.istore_n 1, 1) := by decide +kernel
theorem dX3_init_152 : decode cX3_init 152 = .ok (.iload_n 1, 1) := by decide +kernel
theorem dX3_init_153 : decode cX3_init 153 = .ok (.bipush 6, 2) := by decide +kernel
theorem dX3_init_155 : decode cX3_init 155 = .ok (.if_icmp .ge 35, 3) := by decide +kernel
theorem dX3_init_158 : decode cX3_init 158 = .ok (.aload_n 0, 1) := by decide +kernel
theorem dX3_init_159 : decode cX3_init 159 = .ok (.getfield 34, 3) := by decide +kernel
theorem dX3_init_162 : decode cX3_init 162 = .ok (.iload_n 1, 1) := by decide +kernel
theorem dX3_init_163 : decode cX3_init 163 = .ok (.iload_n 1, 1) := by decide +kernel
theorem dX3_init_164 : decode cX3_init 164 = .ok (.ifCond .ne 8, 3) := by decide +kernel
theorem dX3_init_167 : decode cX3_init 167 = .ok (.bipush (-2), 2) := by decide +kernel
theorem dX3_init_169 : decode cX3_init 169 = .ok (.goto 14, 3) := by decide +kernel
theorem dX3_init_172 : decode cX3_init 172 = .ok (.iload_n 1, 1) := by decide +kernel
theorem dX3_init_173 : decode cX3_init 173 = .ok (.iconst 1, 1) := by decide +kernel
theorem dX3_init_174 : decode cX3_init 174 = .ok (.if_icmp .ne 8, 3) := by decide +kernel
theorem dX3_init_177 : decode cX3_init 177 = .ok (.bipush (-3), 2) := by decide +kernel
theorem dX3_init_179 : decode cX3_init 179 = .ok (.goto 4, 3) := by decide +kernel
theorem dX3_init_182 : decode cX3_init 182 = .ok (.iconst (-1), 1) := by decide +kernel
theorem dX3_init_183 : decode cX3_init 183 = .ok (.iastore, 1) := by decide +kernel
theorem dX3_init_184 : decode cX3_init 184 = .ok (.iinc 1 1, 3) := by decide +kernel
theorem dX3_init_187 : decode cX3_init 187 = .ok (.goto (-35), 3) := by decide +kernel
theorem dX3_init_190 : decode cX3_init 190 = .ok (.return_, 1) := by decide +kernel
theorem dX3_isPattern_0 : decode cX3_isPattern 0 = .ok (.iload_n 1, 1) := by decide +kernel
theorem dX3_isPattern_1 : decode cX3_isPattern 1 = .ok (.iconst 0, 1) := by decide +kernel
theorem dX3_isPattern_2 : decode cX3_isPattern 2 = .ok (.aload_n 0, 1) := by decide +kernel
theorem dX3_isPattern_3 : decode cX3_isPattern 3 = .ok (.getfield 55, 3) := by decide +kernel
theorem dX3_isPattern_6 : decode cX3_isPattern 6 = .ok (.iconst 1, 1) := by decide +kernel
theorem dX3_isPattern_7 : decode cX3_isPattern 7 = .ok (.isub, 1) := by decide +kernel
theorem dX3_isPattern_8 : decode cX3_isPattern 8 = .ok (.invokestatic 59, 3) := by decide +kernel
theorem dX3_isPattern_11 : decode cX3_isPattern 11 = .ok (.ireturn, 1) := by decide +kernel
theorem dX3_dye_0 : decode cX3_dye 0 = .ok (.aload_n 0, 1) := by decide +kernel
theorem dX3_dye_1 : decode cX3_dye 1 = .ok (.iload_n 1, 1) := by decide +kernel
theorem dX3_dye_2 : decode cX3_dye 2 = .ok (.iconst 0, 1) := by decide +kernel
theorem dX3_dye_3 : decode cX3_dye 3 = .ok (.iconst 3, 1) := by decide +kernel
theorem dX3_dye_4 : decode cX3_dye 4 = .ok (.invokestatic 59, 3) := by decide +kernel
theorem dX3_dye_7 : decode cX3_dye 7 = .ok (.ifCond .eq 17, 3) := by decide +kernel
theorem dX3_dye_10 : decode cX3_dye 10 = .ok (.iload_n 2, 1) := by decide +kernel
theorem dX3_dye_11 : decode cX3_dye 11 = .ok (.iconst 0, 1) := by decide +kernel
theorem dX3_dye_12 : decode cX3_dye 12 = .ok (.bipush 7, 2) := by decide +kernel
theorem dX3_dye_14 : decode cX3_dye 14 = .ok (.invokestatic 59, 3) := by decide +kernel
theorem dX3_dye_17 : decode cX3_dye 17 = .ok (.ifCond .eq 7, 3) := by decide +kernel
theorem dX3_dye_20 : decode cX3_dye 20 = .ok (.iconst 0, 1) := by decide +kernel
theorem dX3_dye_21 : decode cX3_dye 21 = .ok (.goto 5, 3) := by decide +kernel
theorem dX3_dye_24 : decode cX3_dye 24 = .ok (.bipush (-3), 2) := by decide +kernel
theorem dX3_dye_26 : decode cX3_dye 26 = .ok (.putfield 63, 3) := by decide +kernel
theorem dX3_dye_29 : decode cX3_dye 29 = .ok (.aload_n 0, 1) := by decide +kernel
theorem dX3_dye_30 : decode cX3_dye 30 = .ok (.getfield 63, 3) := by decide +kernel
theorem dX3_dye_33 : decode cX3_dye 33 = .ok (.ifCond .eq 5, 3) := by decide +kernel
theorem dX3_dye_36 : decode cX3_dye 36 = .ok (.iconst 0, 1) := by decide +kernel
theorem dX3_dye_37 : decode cX3_dye 37 = .ok (.ireturn, 1) := by decide +kernel
theorem dX3_dye_38 : decode cX3_dye 38 = .ok (.aload_n 0, 1) := by decide +kernel
theorem dX3_dye_39 : decode cX3_dye 39 = .ok (.getfield 31, 3) := by decide +kernel
theorem dX3_dye_42 : decode cX3_dye 42 = .ok (.bipush 8, 2) := by decide +kernel
theorem dX3_dye_44 : decode cX3_dye 44 = .ok (.iload_n 1, 1) := by decide +kernel
theorem dX3_dye_45 : decode cX3_dye 45 = .ok (.imul, 1) := by decide +kernel
theorem dX3_dye_46 : decode cX3_dye 46 = .ok (.iload_n 2, 1) := by decide +kernel
theorem dX3_dye_47 : decode cX3_dye 47 = .ok (.iadd, 1) := by decide +kernel
theorem dX3_dye_48 : decode cX3_dye 48 = .ok (.iaload, 1) := by decide +kernel
theorem dX3_dye_49 : decode cX3_dye 49 = .ok (.istore 4, 2) := by decide +kernel
theorem dX3_dye_51 : decode cX3_dye 51 = .ok (.aload_n 0, 1) := by decide +kernel
theorem dX3_dye_52 : decode cX3_dye 52 = .ok (.getfield 31, 3) := by decide +kernel
theorem dX3_dye_55 : decode cX3_dye 55 = .ok (.bipush 8, 2) := by decide +kernel
theorem dX3_dye_57 : decode cX3_dye 57 = .ok (.iload_n 1, 1) := by decide +kernel
theorem dX3_dye_58 : decode cX3_dye 58 = .ok (.imul, 1) := by decide +kernel
theorem dX3_dye_59 : decode cX3_dye 59 = .ok (.iload_n 2, 1) := by decide +kernel
theorem dX3_dye_60 : decode cX3_dye 60 = .ok (.iadd, 1) := by decide +kernel
theorem dX3_dye_61 : decode cX3_dye 61 = .ok (.iload_n 3, 1) := by decide +kernel
theorem dX3_dye_62 : decode cX3_dye 62 = .ok (.iastore, 1) := by decide +kernel
theorem dX3_dye_63 : decode cX3_dye 63 = .ok (.iload 4, 2) := by decide +kernel
theorem dX3_dye_65 : decode cX3_dye 65 = .ok (.ireturn, 1) := by decide +kernel
theorem dX3_areThere_0 : decode cX3_areThere 0 = .ok (.iload_n 1, 1) := by decide +kernel
theorem dX3_areThere_1 : decode cX3_areThere 1 = .ok (.tableswitch 156 0 13 #[71, 71, 71, 156, 156, 73, 95, 126, 126, 149, 156, 73, 156, 149], 71) := by decide +kernel
theorem dX3_areThere_72 : decode cX3_areThere 72 = .ok (.iconst 1, 1) := by decide +kernel
theorem dX3_areThere_73 : decode cX3_areThere 73 = .ok (.ireturn, 1) := by decide +kernel
theorem dX3_areThere_74 : decode cX3_areThere 74 = .ok (.aload_n 0, 1) := by decide +kernel
theorem dX3_areThere_75 : decode cX3_areThere 75 = .ok (.iload_n 2, 1) := by decide +kernel
theorem dX3_areThere_76 : decode cX3_areThere 76 = .ok (.invokevirtual 66, 3) := by decide +kernel
theorem dX3_areThere_79 : decode cX3_areThere 79 = .ok (.ifCond .eq 15, 3) := by decide +kernel
theorem dX3_areThere_82 : decode cX3_areThere 82 = .ok (.aload_n 0, 1) := by decide +kernel
theorem dX3_areThere_83 : decode cX3_areThere 83 = .ok (.iload_n 3, 1) := by decide +kernel
theorem dX3_areThere_84 : decode cX3_areThere 84 = .ok (.invokevirtual 66, 3) := by decide +kernel
theorem dX3_areThere_87 : decode cX3_areThere 87 = .ok (.ifCond .eq 7, 3) := by decide +kernel
theorem dX3_areThere_90 : decode cX3_areThere 90 = .ok (.iconst 1, 1) := by decide +kernel
theorem dX3_areThere_91 : decode cX3_areThere 91 = .ok (.goto 4, 3) := by decide +kernel
theorem dX3_areThere_94 : decode cX3_areThere 94 = .ok (.iconst 0, 1) := by decide +kernel
theorem dX3_areThere_95 : decode cX3_areThere 95 = .ok (.ireturn, 1) := by decide +kernel
theorem dX3_areThere_96 : decode cX3_areThere 96 = .ok (.aload_n 0, 1) := by decide +kernel
theorem dX3_areThere_97 : decode cX3_areThere 97 = .ok (.iload_n 2, 1) := by decide +kernel
theorem dX3_areThere_98 : decode cX3_areThere 98 = .ok (.invokevirtual 66, 3) := by decide +kernel
theorem dX3_areThere_101 : decode cX3_areThere 101 = .ok (.ifCond .eq 24, 3) := by decide +kernel
theorem dX3_areThere_104 : decode cX3_areThere 104 = .ok (.aload_n 0, 1) := by decide +kernel
theorem dX3_areThere_105 : decode cX3_areThere 105 = .ok (.iload_n 3, 1) := by decide +kernel
theorem dX3_areThere_106 : decode cX3_areThere 106 = .ok (.invokevirtual 66, 3) := by decide +kernel
theorem dX3_areThere_109 : decode cX3_areThere 109 = .ok (.ifCond .eq 16, 3) := by decide +kernel
theorem dX3_areThere_112 : decode cX3_areThere 112 = .ok (.aload_n 0, 1) := by decide +kernel
theorem dX3_areThere_113 : decode cX3_areThere 113 = .ok (.iload 4, 2) := by decide +kernel
theorem dX3_areThere_115 : decode cX3_areThere 115 = .ok (.invokevirtual 66, 3) := by decide +kernel
theorem dX3_areThere_118 : decode cX3_areThere 118 = .ok (.ifCond .eq 7, 3) := by decide +kernel
theorem dX3_areThere_121 : decode cX3_areThere 121 = .ok (.iconst 1, 1) := by decide +kernel
theorem dX3_areThere_122 : decode cX3_areThere 122 = .ok (.goto 4, 3) := by decide +kernel
theorem dX3_areThere_125 : decode cX3_areThere 125 = .ok (.iconst 0, 1) := by decide +kernel
theorem dX3_areThere_126 : decode cX3_areThere 126 = .ok (.ireturn, 1) := by decide +kernel
theorem dX3_areThere_127 : decode cX3_areThere 127 = .ok (.aload_n 0, 1) := by decide +kernel
theorem dX3_areThere_128 : decode cX3_areThere 128 = .ok (.iload_n 2, 1) := by decide +kernel
theorem dX3_areThere_129 : decode cX3_areThere 129 = .ok (.invokevirtual 66, 3) := by decide +kernel
theorem dX3_areThere_132 : decode cX3_areThere 132 = .ok (.ifCond .eq 16, 3) := by decide +kernel
theorem dX3_areThere_135 : decode cX3_areThere 135 = .ok (.iload_n 3, 1) := by decide +kernel
theorem dX3_areThere_136 : decode cX3_areThere 136 = .ok (.iconst 0, 1) := by decide +kernel
theorem dX3_areThere_137 : decode cX3_areThere 137 = .ok (.iconst 3, 1) := by decide +kernel
theorem dX3_areThere_138 : decode cX3_areThere 138 = .ok (.invokestatic 59, 3) := by decide +kernel
theorem dX3_areThere_141 : decode cX3_areThere 141 = .ok (.ifCond .eq 7, 3) := by decide +kernel
theorem dX3_areThere_144 : decode cX3_areThere 144 = .ok (.iconst 1, 1) := by decide +kernel
theorem dX3_areThere_145 : decode cX3_areThere 145 = .ok (.goto 4, 3) := by decide +kernel
theorem dX3_areThere_148 : decode cX3_areThere 148 = .ok (.iconst 0, 1) := by decide +kernel
theorem dX3_areThere_149 : decode cX3_areThere 149 = .ok (.ireturn, 1) := by decide +kernel
theorem dX3_areThere_150 : decode cX3_areThere 150 = .ok (.iload_n 2, 1) := by decide +kernel
theorem dX3_areThere_151 : decode cX3_areThere 151 = .ok (.iconst 0, 1) := by decide +kernel
theorem dX3_areThere_152 : decode cX3_areThere 152 = .ok (.iconst 5, 1) := by decide +kernel
theorem dX3_areThere_153 : decode cX3_areThere 153 = .ok (.invokestatic 59, 3) := by decide +kernel
theorem dX3_areThere_156 : decode cX3_areThere 156 = .ok (.ireturn, 1) := by decide +kernel
theorem dX3_areThere_157 : decode cX3_areThere 157 = .ok (.aload_n 0, 1) := by decide +kernel
theorem dX3_areThere_158 : decode cX3_areThere 158 = .ok (.iload_n 2, 1) := by decide +kernel
theorem dX3_areThere_159 : decode cX3_areThere 159 = .ok (.invokevirtual 66, 3) := by decide +kernel
theorem dX3_areThere_162 : decode cX3_areThere 162 = .ok (.ireturn, 1) := by decide +kernel
theorem dX3_pattern_0 : decode cX3_pattern 0 = .ok (.iload_n 1, 1) := by decide +kernel
theorem dX3_pattern_1 : decode cX3_pattern 1 = .ok (.iconst 0, 1) := by decide +kernel
theorem dX3_pattern_2 : decode cX3_pattern 2 = .ok (.bipush 13, 2) := by decide +kernel
theorem dX3_pattern_4 : decode cX3_pattern 4 = .ok (.invokestatic 59, 3) := by decide +kernel
theorem dX3_pattern_7 : decode cX3_pattern 7 = .ok (.ifCond .ne 6, 3) := by decide +kernel
theorem dX3_pattern_10 : decode cX3_pattern 10 = .ok (.bipush (-2), 2) := by decide +kernel
theorem dX3_pattern_12 : decode cX3_pattern 12 = .ok (.ireturn, 1) := by decide +kernel
theorem dX3_pattern_13 : decode cX3_pattern 13 = .ok (.aload_n 0, 1) := by decide +kernel
theorem dX3_pattern_14 : decode cX3_pattern 14 = .ok (.iload_n 1, 1) := by decide +kernel
theorem dX3_pattern_15 : decode cX3_pattern 15 = .ok (.iload_n 2, 1) := by decide +kernel
theorem dX3_pattern_16 : decode cX3_pattern 16 = .ok (.iload_n 3, 1) := by decide +kernel
theorem dX3_pattern_17 : decode cX3_pattern 17 = .ok (.iload 4, 2) := by decide +kernel
theorem dX3_pattern_19 : decode cX3_pattern 19 = .ok (.invokevirtual 70, 3) := by decide +kernel
theorem dX3_pattern_22 : decode cX3_pattern 22 = .ok (.ifCond .ne 6, 3) := by decide +kernel
theorem dX3_pattern_25 : decode cX3_pattern 25 = .ok (.bipush (-3), 2) := by decide +kernel
theorem dX3_pattern_27 : decode cX3_pattern 27 = .ok (.ireturn, 1) := by decide +kernel
theorem dX3_pattern_28 : decode cX3_pattern 28 = .ok (.iload_n 1, 1) := by decide +kernel
theorem dX3_pattern_29 : decode cX3_pattern 29 = .ok (.iconst 4, 1) := by decide +kernel
theorem dX3_pattern_30 : decode cX3_pattern 30 = .ok (.if_icmp .ne 12, 3) := by decide +kernel
theorem dX3_pattern_33 : decode cX3_pattern 33 = .ok (.iload_n 3, 1) := by decide +kernel
theorem dX3_pattern_34 : decode cX3_pattern 34 = .ok (.iconst 0, 1) := by decide +kernel
theorem dX3_pattern_35 : decode cX3_pattern 35 = .ok (.iconst 3, 1) := by decide +kernel
theorem dX3_pattern_36 : decode cX3_pattern 36 = .ok (.invokestatic 59, 3) := by decide +kernel
theorem dX3_pattern_39 : decode cX3_pattern 39 = .ok (.ifCond .eq 34, 3) := by decide +kernel
theorem dX3_pattern_42 : decode cX3_pattern 42 = .ok (.iload_n 1, 1) := by decide +kernel
theorem dX3_pattern_43 : decode cX3_pattern 43 = .ok (.bipush 10, 2) := by decide +kernel
theorem dX3_pattern_45 : decode cX3_pattern 45 = .ok (.if_icmp .ne 13, 3) := by decide +kernel
theorem dX3_pattern_48 : decode cX3_pattern 48 = .ok (.iload_n 3, 1) := by decide +kernel
theorem dX3_pattern_49 : decode cX3_pattern 49 = .ok (.iconst 1, 1) := by decide +kernel
theorem dX3_pattern_50 : decode cX3_pattern 50 = .ok (.bipush 50, 2) := by decide +kernel
theorem dX3_pattern_52 : decode cX3_pattern 52 = .ok (.invokestatic 59, 3) := by decide +kernel
theorem dX3_pattern_55 : decode cX3_pattern 55 = .ok (.ifCond .eq 18, 3) := by decide +kernel
theorem dX3_pattern_58 : decode cX3_pattern 58 = .ok (.iload_n 1, 1) := by decide +kernel
theorem dX3_pattern_59 : decode cX3_pattern 59 = .ok (.bipush 12, 2) := by decide +kernel
theorem dX3_pattern_61 : decode cX3_pattern 61 = .ok (.if_icmp .ne 15, 3) := by decide +kernel
theorem dX3_pattern_64 : decode cX3_pattern 64 = .ok (.iload_n 3, 1) := by decide +kernel
theorem dX3_pattern_65 : decode cX3_pattern 65 = .ok (.iconst 0, 1) := by decide +kernel
theorem dX3_pattern_66 : decode cX3_pattern 66 = .ok (.iconst 3, 1) := by decide +kernel
theorem dX3_pattern_67 : decode cX3_pattern 67 = .ok (.invokestatic 59, 3) := by decide +kernel
theorem dX3_pattern_70 : decode cX3_pattern 70 = .ok (.ifCond .ne 6, 3) := by decide +kernel
theorem dX3_pattern_73 : decode cX3_pattern 73 = .ok (.bipush (-2), 2) := by decide +kernel
theorem dX3_pattern_75 : decode cX3_pattern 75 = .ok (.ireturn, 1) := by decide +kernel
theorem dX3_pattern_76 : decode cX3_pattern 76 = .ok (.aload_n 0, 1) := by decide +kernel
theorem dX3_pattern_77 : decode cX3_pattern 77 = .ok (.getfield 55, 3) := by decide +kernel
theorem dX3_pattern_80 : decode cX3_pattern 80 = .ok (.bipush 60, 2) := by decide +kernel
theorem dX3_pattern_82 : decode cX3_pattern 82 = .ok (.if_icmp .ne 6, 3) := by decide +kernel
theorem dX3_pattern_85 : decode cX3_pattern 85 = .ok (.bipush (-4), 2) := by decide +kernel
theorem dX3_pattern_87 : decode cX3_pattern 87 = .ok (.ireturn, 1) := by decide +kernel
theorem dX3_pattern_88 : decode cX3_pattern 88 = .ok (.aload_n 0, 1) := by decide +kernel
theorem dX3_pattern_89 : decode cX3_pattern 89 = .ok (.getfield 55, 3) := by decide +kernel
theorem dX3_pattern_92 : decode cX3_pattern 92 = .ok (.istore 5, 2) := by decide +kernel
theorem dX3_pattern_94 : decode cX3_pattern 94 = .ok (.aload_n 0, 1) := by decide +kernel
theorem dX3_pattern_95 : decode cX3_pattern 95 = .ok (.getfield 7, 3) := by decide +kernel
theorem dX3_pattern_98 : decode cX3_pattern 98 = .ok (.iload 5, 2) := by decide +kernel
theorem dX3_pattern_100 : decode cX3_pattern 100 = .ok (.iload_n 1, 1) := by decide +kernel
theorem dX3_pattern_101 : decode cX3_pattern 101 = .ok (.iastore, 1) := by decide +kernel
theorem dX3_pattern_102 : decode cX3_pattern 102 = .ok (.aload_n 0, 1) := by decide +kernel
theorem dX3_pattern_103 : decode cX3_pattern 103 = .ok (.getfield 13, 3) := by decide +kernel
theorem dX3_pattern_106 : decode cX3_pattern 106 = .ok (.iload 5, 2) := by decide +kernel
theorem dX3_pattern_108 : decode cX3_pattern 108 = .ok (.iload_n 2, 1) := by decide +kernel
theorem dX3_pattern_109 : decode cX3_pattern 109 = .ok (.iastore, 1) := by decide +kernel
theorem dX3_pattern_110 : decode cX3_pattern 110 = .ok (.aload_n 0, 1) := by decide +kernel
theorem dX3_pattern_111 : decode cX3_pattern 111 = .ok (.getfield 16, 3) := by decide +kernel
theorem dX3_pattern_114 : decode cX3_pattern 114 = .ok (.iload 5, 2) := by decide +kernel
theorem dX3_pattern_116 : decode cX3_pattern 116 = .ok (.iload_n 3, 1) := by decide +kernel
theorem dX3_pattern_117 : decode cX3_pattern 117 = .ok (.iastore, 1) := by decide +kernel
theorem dX3_pattern_118 : decode cX3_pattern 118 = .ok (.aload_n 0, 1) := by decide +kernel
theorem dX3_pattern_119 : decode cX3_pattern 119 = .ok (.getfield 19, 3) := by decide +kernel
theorem dX3_pattern_122 : decode cX3_pattern 122 = .ok (.iload 5, 2) := by decide +kernel
theorem dX3_pattern_124 : decode cX3_pattern 124 = .ok (.iload 4, 2) := by decide +kernel
theorem dX3_pattern_126 : decode cX3_pattern 126 = .ok (.iastore, 1) := by decide +kernel
theorem dX3_pattern_127 : decode cX3_pattern 127 = .ok (.aload_n 0, 1) := by decide +kernel
theorem dX3_pattern_128 : decode cX3_pattern 128 = .ok (.getfield 28, 3) := by decide +kernel
theorem dX3_pattern_131 : decode cX3_pattern 131 = .ok (.iload 5, 2) := by decide +kernel
theorem dX3_pattern_133 : decode cX3_pattern 133 = .ok (.iconst 0, 1) := by decide +kernel
theorem dX3_pattern_134 : decode cX3_pattern 134 = .ok (.iastore, 1) := by decide +kernel
theorem dX3_pattern_135 : decode cX3_pattern 135 = .ok (.aload_n 0, 1) := by decide +kernel
theorem dX3_pattern_136 : decode cX3_pattern 136 = .ok (.getfield 25, 3) := by decide +kernel
theorem dX3_pattern_139 : decode cX3_pattern 139 = .ok (.iload 5, 2) := by decide +kernel
theorem dX3_pattern_141 : decode cX3_pattern 141 = .ok (.iload_n 1, 1) := by decide +kernel
theorem dX3_pattern_142 : decode cX3_pattern 142 = .ok (.bipush 13, 2) := by decide +kernel
theorem dX3_pattern_144 : decode cX3_pattern 144 = .ok (.if_icmp .ne 12, 3) := by decide +kernel
theorem dX3_pattern_147 : decode cX3_pattern 147 = .ok (.aload_n 0, 1) := by decide +kernel
theorem dX3_pattern_148 : decode cX3_pattern 148 = .ok (.getfield 34, 3) := by decide +kernel
theorem dX3_pattern_151 : decode cX3_pattern 151 = .ok (.iload_n 2, 1) := by decide +kernel
theorem dX3_pattern_152 : decode cX3_pattern 152 = .ok (.iaload, 1) := by decide +kernel
theorem dX3_pattern_153 : decode cX3_pattern 153 = .ok (.goto 4, 3) := by decide +kernel
theorem dX3_pattern_156 : decode cX3_pattern 156 = .ok (.iconst (-1), 1) := by decide +kernel
theorem dX3_pattern_157 : decode cX3_pattern 157 = .ok (.iastore, 1) := by decide +kernel
theorem dX3_pattern_158 : decode cX3_pattern 158 = .ok (.iconst 0, 1) := by decide +kernel
theorem dX3_pattern_159 : decode cX3_pattern 159 = .ok (.istore 6, 2) := by decide +kernel
theorem dX3_pattern_161 : decode cX3_pattern 161 = .ok (.iload 6, 2) := by decide +kernel
theorem dX3_pattern_163 : decode cX3_pattern 163 = .ok (.bipush 8, 2) := by decide +kernel
theorem dX3_pattern_165 : decode cX3_pattern 165 = .ok (.if_icmp .ge 40, 3) := by decide +kernel
theorem dX3_pattern_168 : decode cX3_pattern 168 = .ok (.iload_n 1, 1) := by decide +kernel
theorem dX3_pattern_169 : decode cX3_pattern 169 = .ok (.bipush 8, 2) := by decide +kernel
theorem dX3_pattern_171 : decode cX3_pattern 171 = .ok (.if_icmp .ne 34, 3) := by decide +kernel
theorem dX3_pattern_174 : decode cX3_pattern 174 = .ok (.aload_n 0, 1) := by decide +kernel
theorem dX3_pattern_175 : decode cX3_pattern 175 = .ok (.getfield 22, 3) := by decide +kernel
theorem dX3_pattern_178 : decode cX3_pattern 178 = .ok (.bipush 8, 2) := by decide +kernel
theorem dX3_pattern_180 : decode cX3_pattern 180 = .ok (.iload 5, 2) := by decide +kernel
theorem dX3_pattern_182 : decode cX3_pattern 182 = .ok (.imul, 1) := by decide +kernel
theorem dX3_pattern_183 : decode cX3_pattern 183 = .ok (.iload 6, 2) := by decide +kernel
theorem dX3_pattern_185 : decode cX3_pattern 185 = .ok (.iadd, 1) := by decide +kernel
theorem dX3_pattern_186 : decode cX3_pattern 186 = .ok (.aload_n 0, 1) := by decide +kernel
theorem dX3_pattern_187 : decode cX3_pattern 187 = .ok (.getfield 31, 3) := by decide +kernel
theorem dX3_pattern_190 : decode cX3_pattern 190 = .ok (.bipush 8, 2) := by decide +kernel
theorem dX3_pattern_192 : decode cX3_pattern 192 = .ok (.iload_n 3, 1) := by decide +kernel
theorem dX3_pattern_193 : decode cX3_pattern 193 = .ok (.imul, 1) := by decide +kernel
theorem dX3_pattern_194 : decode cX3_pattern 194 = .ok (.iload 6, 2) := by decide +kernel
theorem dX3_pattern_196 : decode cX3_pattern 196 = .ok (.iadd, 1) := by decide +kernel
theorem dX3_pattern_197 : decode cX3_pattern 197 = .ok (.iaload, 1) := by decide +kernel
theorem dX3_pattern_198 : decode cX3_pattern 198 = .ok (.iastore, 1) := by decide +kernel
theorem dX3_pattern_199 : decode cX3_pattern 199 = .ok (.iinc 6 1, 3) := by decide +kernel
theorem dX3_pattern_202 : decode cX3_pattern 202 = .ok (.goto (-41), 3) := by decide +kernel
theorem dX3_pattern_205 : decode cX3_pattern 205 = .ok (.aload_n 0, 1) := by decide +kernel
theorem dX3_pattern_206 : decode cX3_pattern 206 = .ok (.dup, 1) := by decide +kernel
theorem dX3_pattern_207 : decode cX3_pattern 207 = .ok (.getfield 55, 3) := by decide +kernel
theorem dX3_pattern_210 : decode cX3_pattern 210 = .ok (.iconst 1, 1) := by decide +kernel
theorem dX3_pattern_211 : decode cX3_pattern 211 = .ok (.iadd, 1) := by decide +kernel
theorem dX3_pattern_212 : decode cX3_pattern 212 = .ok (.putfield 55, 3) := by decide +kernel
theorem dX3_pattern_215 : decode cX3_pattern 215 = .ok (.iload 5, 2) := by decide +kernel
theorem dX3_pattern_217 : decode cX3_pattern 217 = .ok (.ireturn, 1) := by decide +kernel
theorem dX3_name_0 : decode cX3_name 0 = .ok (.iload_n 1, 1) := by decide +kernel
theorem dX3_name_1 : decode cX3_name 1 = .ok (.iconst 0, 1) := by decide +kernel
theorem dX3_name_2 : decode cX3_name 2 = .ok (.iconst 5, 1) := by decide +kernel
theorem dX3_name_3 : decode cX3_name 3 = .ok (.invokestatic 59, 3) := by decide +kernel
theorem dX3_name_6 : decode cX3_name 6 = .ok (.ifCond .eq 16, 3) := by decide +kernel
theorem dX3_name_9 : decode cX3_name 9 = .ok (.iload_n 2, 1) := by decide +kernel
theorem dX3_name_10 : decode cX3_name 10 = .ok (.iconst (-1), 1) := by decide +kernel
theorem dX3_name_11 : decode cX3_name 11 = .ok (.if_icmp .eq 14, 3) := by decide +kernel
theorem dX3_name_14 : decode cX3_name 14 = .ok (.aload_n 0, 1) := by decide +kernel
theorem dX3_name_15 : decode cX3_name 15 = .ok (.iload_n 2, 1) := by decide +kernel
theorem dX3_name_16 : decode cX3_name 16 = .ok (.invokevirtual 66, 3) := by decide +kernel
theorem dX3_name_19 : decode cX3_name 19 = .ok (.ifCond .ne 6, 3) := by decide +kernel
theorem dX3_name_22 : decode cX3_name 22 = .ok (.bipush (-3), 2) := by decide +kernel
theorem dX3_name_24 : decode cX3_name 24 = .ok (.ireturn, 1) := by decide +kernel
theorem dX3_name_25 : decode cX3_name 25 = .ok (.aload_n 0, 1) := by decide +kernel
theorem dX3_name_26 : decode cX3_name 26 = .ok (.getfield 34, 3) := by decide +kernel
theorem dX3_name_29 : decode cX3_name 29 = .ok (.iload_n 1, 1) := by decide +kernel
theorem dX3_name_30 : decode cX3_name 30 = .ok (.iaload, 1) := by decide +kernel
theorem dX3_name_31 : decode cX3_name 31 = .ok (.iconst (-1), 1) := by decide +kernel
theorem dX3_name_32 : decode cX3_name 32 = .ok (.if_icmp .ne 7, 3) := by decide +kernel
theorem dX3_name_35 : decode cX3_name 35 = .ok (.iconst 0, 1) := by decide +kernel
theorem dX3_name_36 : decode cX3_name 36 = .ok (.goto 4, 3) := by decide +kernel
theorem dX3_name_39 : decode cX3_name 39 = .ok (.iconst 1, 1) := by decide +kernel
theorem dX3_name_40 : decode cX3_name 40 = .ok (.istore_n 3, 1) := by decide +kernel
theorem dX3_name_41 : decode cX3_name 41 = .ok (.aload_n 0, 1) := by decide +kernel
theorem dX3_name_42 : decode cX3_name 42 = .ok (.getfield 34, 3) := by decide +kernel
theorem dX3_name_45 : decode cX3_name 45 = .ok (.iload_n 1, 1) := by decide +kernel
theorem dX3_name_46 : decode cX3_name 46 = .ok (.iload_n 2, 1) := by decide +kernel
theorem dX3_name_47 : decode cX3_name 47 = .ok (.iastore, 1) := by decide +kernel
theorem dX3_name_48 : decode cX3_name 48 = .ok (.iload_n 3, 1) := by decide +kernel
theorem dX3_name_49 : decode cX3_name 49 = .ok (.ireturn, 1) := by decide +kernel
theorem dX3_push_0 : decode cX3_push 0 = .ok (.aload_n 0, 1) := by decide +kernel
theorem dX3_push_1 : decode cX3_push 1 = .ok (.getfield 74, 3) := by decide +kernel
theorem dX3_push_4 : decode cX3_push 4 = .ok (.bipush 100, 2) := by decide +kernel
theorem dX3_push_6 : decode cX3_push 6 = .ok (.if_icmp .ne 9, 3) := by decide +kernel
theorem dX3_push_9 : decode cX3_push 9 = .ok (.aload_n 0, 1) := by decide +kernel
theorem dX3_push_10 : decode cX3_push 10 = .ok (.iconst 4, 1) := by decide +kernel
theorem dX3_push_11 : decode cX3_push 11 = .ok (.putfield 77, 3) := by decide +kernel
theorem dX3_push_14 : decode cX3_push 14 = .ok (.return_, 1) := by decide +kernel
theorem dX3_push_15 : decode cX3_push 15 = .ok (.aload_n 0, 1) := by decide +kernel
theorem dX3_push_16 : decode cX3_push 16 = .ok (.dup, 1) := by decide +kernel
theorem dX3_push_17 : decode cX3_push 17 = .ok (.getfield 74, 3) := by decide +kernel
theorem dX3_push_20 : decode cX3_push 20 = .ok (.iconst 1, 1) := by decide +kernel
theorem dX3_push_21 : decode cX3_push 21 = .ok (.iadd, 1) := by decide +kernel
theorem dX3_push_22 : decode cX3_push 22 = .ok (.putfield 74, 3) := by decide +kernel
theorem dX3_push_25 : decode cX3_push 25 = .ok (.iload_n 1, 1) := by decide +kernel
theorem dX3_push_26 : decode cX3_push 26 = .ok (.iconst (-1), 1) := by decide +kernel
theorem dX3_push_27 : decode cX3_push 27 = .ok (.if_icmp .ne 9, 3) := by decide +kernel
theorem dX3_push_30 : decode cX3_push 30 = .ok (.aload_n 0, 1) := by decide +kernel
theorem dX3_push_31 : decode cX3_push 31 = .ok (.iconst 3, 1) := by decide +kernel
theorem dX3_push_32 : decode cX3_push 32 = .ok (.putfield 77, 3) := by decide +kernel
theorem dX3_push_35 : decode cX3_push 35 = .ok (.return_, 1) := by decide +kernel
theorem dX3_push_36 : decode cX3_push 36 = .ok (.aload_n 0, 1) := by decide +kernel
theorem dX3_push_37 : decode cX3_push 37 = .ok (.getfield 37, 3) := by decide +kernel
theorem dX3_push_40 : decode cX3_push 40 = .ok (.aload_n 0, 1) := by decide +kernel
theorem dX3_push_41 : decode cX3_push 41 = .ok (.getfield 80, 3) := by decide +kernel
theorem dX3_push_44 : decode cX3_push 44 = .ok (.iload_n 1, 1) := by decide +kernel
theorem dX3_push_45 : decode cX3_push 45 = .ok (.iastore, 1) := by decide +kernel
theorem dX3_push_46 : decode cX3_push 46 = .ok (.aload_n 0, 1) := by decide +kernel
theorem dX3_push_47 : decode cX3_push 47 = .ok (.getfield 40, 3) := by decide +kernel
theorem dX3_push_50 : decode cX3_push 50 = .ok (.aload_n 0, 1) := by decide +kernel
theorem dX3_push_51 : decode cX3_push 51 = .ok (.getfield 80, 3) := by decide +kernel
theorem dX3_push_54 : decode cX3_push 54 = .ok (.iload_n 2, 1) := by decide +kernel
theorem dX3_push_55 : decode cX3_push 55 = .ok (.iastore, 1) := by decide +kernel
theorem dX3_push_56 : decode cX3_push 56 = .ok (.aload_n 0, 1) := by decide +kernel
theorem dX3_push_57 : decode cX3_push 57 = .ok (.getfield 43, 3) := by decide +kernel
theorem dX3_push_60 : decode cX3_push 60 = .ok (.aload_n 0, 1) := by decide +kernel
theorem dX3_push_61 : decode cX3_push 61 = .ok (.getfield 80, 3) := by decide +kernel
theorem dX3_push_64 : decode cX3_push 64 = .ok (.iload_n 3, 1) := by decide +kernel
theorem dX3_push_65 : decode cX3_push 65 = .ok (.iastore, 1) := by decide +kernel
theorem dX3_push_66 : decode cX3_push 66 = .ok (.aload_n 0, 1) := by decide +kernel
theorem dX3_push_67 : decode cX3_push 67 = .ok (.getfield 46, 3) := by decide +kernel
theorem dX3_push_70 : decode cX3_push 70 = .ok (.aload_n 0, 1) := by decide +kernel
theorem dX3_push_71 : decode cX3_push 71 = .ok (.getfield 80, 3) := by decide +kernel
theorem dX3_push_74 : decode cX3_push 74 = .ok (.iconst 0, 1) := by decide +kernel
theorem dX3_push_75 : decode cX3_push 75 = .ok (.iastore, 1) := by decide +kernel
theorem dX3_push_76 : decode cX3_push 76 = .ok (.aload_n 0, 1) := by decide +kernel
theorem dX3_push_77 : decode cX3_push 77 = .ok (.dup, 1) := by decide +kernel
theorem dX3_push_78 : decode cX3_push 78 = .ok (.getfield 80, 3) := by decide +kernel
theorem dX3_push_81 : decode cX3_push 81 = .ok (.iconst 1, 1) := by decide +kernel
theorem dX3_push_82 : decode cX3_push 82 = .ok (.iadd, 1) := by decide +kernel
theorem dX3_push_83 : decode cX3_push 83 = .ok (.putfield 80, 3) := by decide +kernel
theorem dX3_push_86 : decode cX3_push 86 = .ok (.return_, 1) := by decide +kernel
theorem dX3_tells_0 : decode cX3_tells 0 = .ok (.aload_n 0, 1) := by decide +kernel
theorem dX3_tells_1 : decode cX3_tells 1 = .ok (.iload_n 1, 1) := by decide +kernel
theorem dX3_tells_2 : decode cX3_tells 2 = .ok (.putfield 83, 3) := by decide +kernel
theorem dX3_tells_5 : decode cX3_tells 5 = .ok (.aload_n 0, 1) := by decide +kernel
theorem dX3_tells_6 : decode cX3_tells 6 = .ok (.dup, 1) := by decide +kernel
theorem dX3_tells_7 : decode cX3_tells 7 = .ok (.getfield 80, 3) := by decide +kernel
theorem dX3_tells_10 : decode cX3_tells 10 = .ok (.iconst 1, 1) := by decide +kernel
theorem dX3_tells_11 : decode cX3_tells 11 = .ok (.isub, 1) := by decide +kernel
theorem dX3_tells_12 : decode cX3_tells 12 = .ok (.putfield 80, 3) := by decide +kernel
theorem dX3_tells_15 : decode cX3_tells 15 = .ok (.return_, 1) := by decide +kernel
theorem dX3_tellsOf_0 : decode cX3_tellsOf 0 = .ok (.iload_n 1, 1) := by decide +kernel
theorem dX3_tellsOf_1 : decode cX3_tellsOf 1 = .ok (.iconst 0, 1) := by decide +kernel
theorem dX3_tellsOf_2 : decode cX3_tellsOf 2 = .ok (.bipush 7, 2) := by decide +kernel
theorem dX3_tellsOf_4 : decode cX3_tellsOf 4 = .ok (.invokestatic 59, 3) := by decide +kernel
theorem dX3_tellsOf_7 : decode cX3_tellsOf 7 = .ok (.ifCond .eq 13, 3) := by decide +kernel
theorem dX3_tellsOf_10 : decode cX3_tellsOf 10 = .ok (.aload_n 0, 1) := by decide +kernel
theorem dX3_tellsOf_11 : decode cX3_tellsOf 11 = .ok (.iload_n 2, 1) := by decide +kernel
theorem dX3_tellsOf_12 : decode cX3_tellsOf 12 = .ok (.iload_n 3, 1) := by decide +kernel
theorem dX3_tellsOf_13 : decode cX3_tellsOf 13 = .ok (.iadd, 1) := by decide +kernel
theorem dX3_tellsOf_14 : decode cX3_tellsOf 14 = .ok (.invokevirtual 86, 3) := by decide +kernel
theorem dX3_tellsOf_17 : decode cX3_tellsOf 17 = .ok (.goto 8, 3) := by decide +kernel
theorem dX3_tellsOf_20 : decode cX3_tellsOf 20 = .ok (.aload_n 0, 1) := by decide +kernel
theorem dX3_tellsOf_21 : decode cX3_tellsOf 21 = .ok (.iconst 2, 1) := by decide +kernel
theorem dX3_tellsOf_22 : decode cX3_tellsOf 22 = .ok (.putfield 77, 3) := by decide +kernel
theorem dX3_tellsOf_25 : decode cX3_tellsOf 25 = .ok (.return_, 1) := by decide +kernel
theorem dX3_dyeAt_0 : decode cX3_dyeAt 0 = .ok (.iload_n 2, 1) := by decide +kernel
theorem dX3_dyeAt_1 : decode cX3_dyeAt 1 = .ok (.iconst 0, 1) := by decide +kernel
theorem dX3_dyeAt_2 : decode cX3_dyeAt 2 = .ok (.bipush 7, 2) := by decide +kernel
theorem dX3_dyeAt_4 : decode cX3_dyeAt 4 = .ok (.invokestatic 59, 3) := by decide +kernel
theorem dX3_dyeAt_7 : decode cX3_dyeAt 7 = .ok (.ifCond .eq 17, 3) := by decide +kernel
theorem dX3_dyeAt_10 : decode cX3_dyeAt 10 = .ok (.aload_n 0, 1) := by decide +kernel
theorem dX3_dyeAt_11 : decode cX3_dyeAt 11 = .ok (.getfield 31, 3) := by decide +kernel
theorem dX3_dyeAt_14 : decode cX3_dyeAt 14 = .ok (.bipush 8, 2) := by decide +kernel
theorem dX3_dyeAt_16 : decode cX3_dyeAt 16 = .ok (.iload_n 1, 1) := by decide +kernel
theorem dX3_dyeAt_17 : decode cX3_dyeAt 17 = .ok (.imul, 1) := by decide +kernel
theorem dX3_dyeAt_18 : decode cX3_dyeAt 18 = .ok (.iload_n 2, 1) := by decide +kernel
theorem dX3_dyeAt_19 : decode cX3_dyeAt 19 = .ok (.iadd, 1) := by decide +kernel
theorem dX3_dyeAt_20 : decode cX3_dyeAt 20 = .ok (.iaload, 1) := by decide +kernel
theorem dX3_dyeAt_21 : decode cX3_dyeAt 21 = .ok (.goto 4, 3) := by decide +kernel
theorem dX3_dyeAt_24 : decode cX3_dyeAt 24 = .ok (.iconst 0, 1) := by decide +kernel
theorem dX3_dyeAt_25 : decode cX3_dyeAt 25 = .ok (.ireturn, 1) := by decide +kernel
theorem dX3_alone_0 : decode cX3_alone 0 = .ok (.iload_n 1, 1) := by decide +kernel
theorem dX3_alone_1 : decode cX3_alone 1 = .ok (.bipush (-2), 2) := by decide +kernel
theorem dX3_alone_3 : decode cX3_alone 3 = .ok (.if_icmp .ne 15, 3) := by decide +kernel
theorem dX3_alone_6 : decode cX3_alone 6 = .ok (.aload_n 0, 1) := by decide +kernel
theorem dX3_alone_7 : decode cX3_alone 7 = .ok (.iload_n 2, 1) := by decide +kernel
theorem dX3_alone_8 : decode cX3_alone 8 = .ok (.iload_n 3, 1) := by decide +kernel
theorem dX3_alone_9 : decode cX3_alone 9 = .ok (.iadd, 1) := by decide +kernel
theorem dX3_alone_10 : decode cX3_alone 10 = .ok (.iconst 2, 1) := by decide +kernel
theorem dX3_alone_11 : decode cX3_alone 11 = .ok (.irem, 1) := by decide +kernel
theorem dX3_alone_12 : decode cX3_alone 12 = .ok (.invokevirtual 86, 3) := by decide +kernel
theorem dX3_alone_15 : decode cX3_alone 15 = .ok (.goto 169, 3) := by decide +kernel
theorem dX3_alone_18 : decode cX3_alone 18 = .ok (.iload_n 1, 1) := by decide +kernel
theorem dX3_alone_19 : decode cX3_alone 19 = .ok (.bipush (-3), 2) := by decide +kernel
theorem dX3_alone_21 : decode cX3_alone 21 = .ok (.if_icmp .ne 18, 3) := by decide +kernel
theorem dX3_alone_24 : decode cX3_alone 24 = .ok (.aload_n 0, 1) := by decide +kernel
theorem dX3_alone_25 : decode cX3_alone 25 = .ok (.iload_n 2, 1) := by decide +kernel
theorem dX3_alone_26 : decode cX3_alone 26 = .ok (.aload_n 0, 1) := by decide +kernel
theorem dX3_alone_27 : decode cX3_alone 27 = .ok (.iconst 0, 1) := by decide +kernel
theorem dX3_alone_28 : decode cX3_alone 28 = .ok (.iload_n 2, 1) := by decide +kernel
theorem dX3_alone_29 : decode cX3_alone 29 = .ok (.invokevirtual 90, 3) := by decide +kernel
theorem dX3_alone_32 : decode cX3_alone 32 = .ok (.iload_n 3, 1) := by decide +kernel
theorem dX3_alone_33 : decode cX3_alone 33 = .ok (.invokevirtual 94, 3) := by decide +kernel
theorem dX3_alone_36 : decode cX3_alone 36 = .ok (.goto 148, 3) := by decide +kernel
theorem dX3_alone_39 : decode cX3_alone 39 = .ok (.aload_n 0, 1) := by decide +kernel
theorem dX3_alone_40 : decode cX3_alone 40 = .ok (.getfield 7, 3) := by decide +kernel
theorem dX3_alone_43 : decode cX3_alone 43 = .ok (.iload_n 1, 1) := by decide +kernel
theorem dX3_alone_44 : decode cX3_alone 44 = .ok (.iaload, 1) := by decide +kernel
theorem dX3_alone_45 : decode cX3_alone 45 = .ok (.ifCond .ne 16, 3) := by decide +kernel
theorem dX3_alone_48 : decode cX3_alone 48 = .ok (.aload_n 0, 1) := by decide +kernel
theorem dX3_alone_49 : decode cX3_alone 49 = .ok (.aload_n 0, 1) := by decide +kernel
theorem dX3_alone_50 : decode cX3_alone 50 = .ok (.getfield 13, 3) := by decide +kernel
theorem dX3_alone_53 : decode cX3_alone 53 = .ok (.iload_n 1, 1) := by decide +kernel
theorem dX3_alone_54 : decode cX3_alone 54 = .ok (.iaload, 1) := by decide +kernel
theorem dX3_alone_55 : decode cX3_alone 55 = .ok (.invokevirtual 86, 3) := by decide +kernel
theorem dX3_alone_58 : decode cX3_alone 58 = .ok (.goto 126, 3) := by decide +kernel
theorem dX3_alone_61 : decode cX3_alone 61 = .ok (.aload_n 0, 1) := by decide +kernel
theorem dX3_alone_62 : decode cX3_alone 62 = .ok (.getfield 7, 3) := by decide +kernel
theorem dX3_alone_65 : decode cX3_alone 65 = .ok (.iload_n 1, 1) := by decide +kernel
theorem dX3_alone_66 : decode cX3_alone 66 = .ok (.iaload, 1) := by decide +kernel
theorem dX3_alone_67 : decode cX3_alone 67 = .ok (.iconst 1, 1) := by decide +kernel
theorem dX3_alone_68 : decode cX3_alone 68 = .ok (.if_icmp .ne 57, 3) := by decide +kernel
theorem dX3_alone_71 : decode cX3_alone 71 = .ok (.aload_n 0, 1) := by decide +kernel
theorem dX3_alone_72 : decode cX3_alone 72 = .ok (.getfield 19, 3) := by decide +kernel
theorem dX3_alone_75 : decode cX3_alone 75 = .ok (.iload_n 1, 1) := by decide +kernel
theorem dX3_alone_76 : decode cX3_alone 76 = .ok (.iaload, 1) := by decide +kernel
theorem dX3_alone_77 : decode cX3_alone 77 = .ok (.ifCond .ne 11, 3) := by decide +kernel
theorem dX3_alone_80 : decode cX3_alone 80 = .ok (.aload_n 0, 1) := by decide +kernel
theorem dX3_alone_81 : decode cX3_alone 81 = .ok (.iconst 1, 1) := by decide +kernel
theorem dX3_alone_82 : decode cX3_alone 82 = .ok (.putfield 77, 3) := by decide +kernel
theorem dX3_alone_85 : decode cX3_alone 85 = .ok (.goto 99, 3) := by decide +kernel
theorem dX3_alone_88 : decode cX3_alone 88 = .ok (.aload_n 0, 1) := by decide +kernel
theorem dX3_alone_89 : decode cX3_alone 89 = .ok (.iload_n 2, 1) := by decide +kernel
theorem dX3_alone_90 : decode cX3_alone 90 = .ok (.aload_n 0, 1) := by decide +kernel
theorem dX3_alone_91 : decode cX3_alone 91 = .ok (.getfield 19, 3) := by decide +kernel
theorem dX3_alone_94 : decode cX3_alone 94 = .ok (.iload_n 1, 1) := by decide +kernel
theorem dX3_alone_95 : decode cX3_alone 95 = .ok (.iaload, 1) := by decide +kernel
theorem dX3_alone_96 : decode cX3_alone 96 = .ok (.invokestatic 98, 3) := by decide +kernel
theorem dX3_alone_99 : decode cX3_alone 99 = .ok (.iconst 2, 1) := by decide +kernel
theorem dX3_alone_100 : decode cX3_alone 100 = .ok (.irem, 1) := by decide +kernel
theorem dX3_alone_101 : decode cX3_alone 101 = .ok (.ifCond .ne 12, 3) := by decide +kernel
theorem dX3_alone_104 : decode cX3_alone 104 = .ok (.aload_n 0, 1) := by decide +kernel
theorem dX3_alone_105 : decode cX3_alone 105 = .ok (.getfield 13, 3) := by decide +kernel
theorem dX3_alone_108 : decode cX3_alone 108 = .ok (.iload_n 1, 1) := by decide +kernel
theorem dX3_alone_109 : decode cX3_alone 109 = .ok (.iaload, 1) := by decide +kernel
theorem dX3_alone_110 : decode cX3_alone 110 = .ok (.goto 9, 3) := by decide +kernel
theorem dX3_alone_113 : decode cX3_alone 113 = .ok (.aload_n 0, 1) := by decide +kernel
theorem dX3_alone_114 : decode cX3_alone 114 = .ok (.getfield 16, 3) := by decide +kernel
theorem dX3_alone_117 : decode cX3_alone 117 = .ok (.iload_n 1, 1) := by decide +kernel
theorem dX3_alone_118 : decode cX3_alone 118 = .ok (.iaload, 1) := by decide +kernel
theorem dX3_alone_119 : decode cX3_alone 119 = .ok (.invokevirtual 86, 3) := by decide +kernel
theorem dX3_alone_122 : decode cX3_alone 122 = .ok (.goto 62, 3) := by decide +kernel
theorem dX3_alone_125 : decode cX3_alone 125 = .ok (.aload_n 0, 1) := by decide +kernel
theorem dX3_alone_126 : decode cX3_alone 126 = .ok (.getfield 16, 3) := by decide +kernel
theorem dX3_alone_129 : decode cX3_alone 129 = .ok (.iload_n 1, 1) := by decide +kernel
theorem dX3_alone_130 : decode cX3_alone 130 = .ok (.iaload, 1) := by decide +kernel
theorem dX3_alone_131 : decode cX3_alone 131 = .ok (.ifCond .ne 11, 3) := by decide +kernel
theorem dX3_alone_134 : decode cX3_alone 134 = .ok (.aload_n 0, 1) := by decide +kernel
theorem dX3_alone_135 : decode cX3_alone 135 = .ok (.iconst 1, 1) := by decide +kernel
theorem dX3_alone_136 : decode cX3_alone 136 = .ok (.putfield 77, 3) := by decide +kernel
theorem dX3_alone_139 : decode cX3_alone 139 = .ok (.goto 45, 3) := by decide +kernel
theorem dX3_alone_142 : decode cX3_alone 142 = .ok (.aload_n 0, 1) := by decide +kernel
theorem dX3_alone_143 : decode cX3_alone 143 = .ok (.aload_n 0, 1) := by decide +kernel
theorem dX3_alone_144 : decode cX3_alone 144 = .ok (.getfield 16, 3) := by decide +kernel
theorem dX3_alone_147 : decode cX3_alone 147 = .ok (.iload_n 1, 1) := by decide +kernel
theorem dX3_alone_148 : decode cX3_alone 148 = .ok (.iaload, 1) := by decide +kernel
theorem dX3_alone_149 : decode cX3_alone 149 = .ok (.iconst (-1), 1) := by decide +kernel
theorem dX3_alone_150 : decode cX3_alone 150 = .ok (.if_icmp .ne 7, 3) := by decide +kernel
theorem dX3_alone_153 : decode cX3_alone 153 = .ok (.iconst 0, 1) := by decide +kernel
theorem dX3_alone_154 : decode cX3_alone 154 = .ok (.goto 20, 3) := by decide +kernel
theorem dX3_alone_157 : decode cX3_alone 157 = .ok (.iload_n 2, 1) := by decide +kernel
theorem dX3_alone_158 : decode cX3_alone 158 = .ok (.aload_n 0, 1) := by decide +kernel
theorem dX3_alone_159 : decode cX3_alone 159 = .ok (.getfield 13, 3) := by decide +kernel
theorem dX3_alone_162 : decode cX3_alone 162 = .ok (.iload_n 1, 1) := by decide +kernel
theorem dX3_alone_163 : decode cX3_alone 163 = .ok (.iaload, 1) := by decide +kernel
theorem dX3_alone_164 : decode cX3_alone 164 = .ok (.iload_n 3, 1) := by decide +kernel
theorem dX3_alone_165 : decode cX3_alone 165 = .ok (.imul, 1) := by decide +kernel
theorem dX3_alone_166 : decode cX3_alone 166 = .ok (.iadd, 1) := by decide +kernel
theorem dX3_alone_167 : decode cX3_alone 167 = .ok (.aload_n 0, 1) := by decide +kernel
theorem dX3_alone_168 : decode cX3_alone 168 = .ok (.getfield 16, 3) := by decide +kernel
theorem dX3_alone_171 : decode cX3_alone 171 = .ok (.iload_n 1, 1) := by decide +kernel
theorem dX3_alone_172 : decode cX3_alone 172 = .ok (.iaload, 1) := by decide +kernel
theorem dX3_alone_173 : decode cX3_alone 173 = .ok (.irem, 1) := by decide +kernel
theorem dX3_alone_174 : decode cX3_alone 174 = .ok (.aload_n 0, 1) := by decide +kernel
theorem dX3_alone_175 : decode cX3_alone 175 = .ok (.getfield 19, 3) := by decide +kernel
theorem dX3_alone_178 : decode cX3_alone 178 = .ok (.iload_n 1, 1) := by decide +kernel
theorem dX3_alone_179 : decode cX3_alone 179 = .ok (.iaload, 1) := by decide +kernel
theorem dX3_alone_180 : decode cX3_alone 180 = .ok (.iadd, 1) := by decide +kernel
theorem dX3_alone_181 : decode cX3_alone 181 = .ok (.invokevirtual 86, 3) := by decide +kernel
theorem dX3_alone_184 : decode cX3_alone 184 = .ok (.return_, 1) := by decide +kernel
theorem dX3_quotient_0 : decode cX3_quotient 0 = .ok (.iload_n 1, 1) := by decide +kernel
theorem dX3_quotient_1 : decode cX3_quotient 1 = .ok (.iconst (-1), 1) := by decide +kernel
theorem dX3_quotient_2 : decode cX3_quotient 2 = .ok (.if_icmp .ne 8, 3) := by decide +kernel
theorem dX3_quotient_5 : decode cX3_quotient 5 = .ok (.iload_n 0, 1) := by decide +kernel
theorem dX3_quotient_6 : decode cX3_quotient 6 = .ok (.ineg, 1) := by decide +kernel
theorem dX3_quotient_7 : decode cX3_quotient 7 = .ok (.goto 6, 3) := by decide +kernel
theorem dX3_quotient_10 : decode cX3_quotient 10 = .ok (.iload_n 0, 1) := by decide +kernel
theorem dX3_quotient_11 : decode cX3_quotient 11 = .ok (.iload_n 1, 1) := by decide +kernel
theorem dX3_quotient_12 : decode cX3_quotient 12 = .ok (.idiv, 1) := by decide +kernel
theorem dX3_quotient_13 : decode cX3_quotient 13 = .ok (.ireturn, 1) := by decide +kernel
theorem dX3_turned_0 : decode cX3_turned 0 = .ok (.aload_n 0, 1) := by decide +kernel
theorem dX3_turned_1 : decode cX3_turned 1 = .ok (.getfield 16, 3) := by decide +kernel
theorem dX3_turned_4 : decode cX3_turned 4 = .ok (.iload_n 1, 1) := by decide +kernel
theorem dX3_turned_5 : decode cX3_turned 5 = .ok (.iaload, 1) := by decide +kernel
theorem dX3_turned_6 : decode cX3_turned 6 = .ok (.istore 4, 2) := by decide +kernel
theorem dX3_turned_8 : decode cX3_turned 8 = .ok (.aload_n 0, 1) := by decide +kernel
theorem dX3_turned_9 : decode cX3_turned 9 = .ok (.aload_n 0, 1) := by decide +kernel
theorem dX3_turned_10 : decode cX3_turned 10 = .ok (.getfield 13, 3) := by decide +kernel
theorem dX3_turned_13 : decode cX3_turned 13 = .ok (.iload_n 1, 1) := by decide +kernel
theorem dX3_turned_14 : decode cX3_turned 14 = .ok (.iaload, 1) := by decide +kernel
theorem dX3_turned_15 : decode cX3_turned 15 = .ok (.iload 4, 2) := by decide +kernel
theorem dX3_turned_17 : decode cX3_turned 17 = .ok (.ifCond .ne 7, 3) := by decide +kernel
theorem dX3_turned_20 : decode cX3_turned 20 = .ok (.iload_n 3, 1) := by decide +kernel
theorem dX3_turned_21 : decode cX3_turned 21 = .ok (.goto 27, 3) := by decide +kernel
theorem dX3_turned_24 : decode cX3_turned 24 = .ok (.iload 4, 2) := by decide +kernel
theorem dX3_turned_26 : decode cX3_turned 26 = .ok (.iconst 1, 1) := by decide +kernel
theorem dX3_turned_27 : decode cX3_turned 27 = .ok (.if_icmp .ne 8, 3) := by decide +kernel
theorem dX3_turned_30 : decode cX3_turned 30 = .ok (.iload_n 2, 1) := by decide +kernel
theorem dX3_turned_31 : decode cX3_turned 31 = .ok (.ineg, 1) := by decide +kernel
theorem dX3_turned_32 : decode cX3_turned 32 = .ok (.goto 16, 3) := by decide +kernel
theorem dX3_turned_35 : decode cX3_turned 35 = .ok (.iload 4, 2) := by decide +kernel
theorem dX3_turned_37 : decode cX3_turned 37 = .ok (.iconst 2, 1) := by decide +kernel
theorem dX3_turned_38 : decode cX3_turned 38 = .ok (.if_icmp .ne 7, 3) := by decide +kernel
theorem dX3_turned_41 : decode cX3_turned 41 = .ok (.iload_n 2, 1) := by decide +kernel
theorem dX3_turned_42 : decode cX3_turned 42 = .ok (.goto 6, 3) := by decide +kernel
theorem dX3_turned_45 : decode cX3_turned 45 = .ok (.iload_n 2, 1) := by decide +kernel
theorem dX3_turned_46 : decode cX3_turned 46 = .ok (.iload_n 3, 1) := by decide +kernel
theorem dX3_turned_47 : decode cX3_turned 47 = .ok (.imul, 1) := by decide +kernel
theorem dX3_turned_48 : decode cX3_turned 48 = .ok (.iload 4, 2) := by decide +kernel
theorem dX3_turned_50 : decode cX3_turned 50 = .ok (.ifCond .ne 7, 3) := by decide +kernel
theorem dX3_turned_53 : decode cX3_turned 53 = .ok (.iload_n 2, 1) := by decide +kernel
theorem dX3_turned_54 : decode cX3_turned 54 = .ok (.goto 27, 3) := by decide +kernel
theorem dX3_turned_57 : decode cX3_turned 57 = .ok (.iload 4, 2) := by decide +kernel
theorem dX3_turned_59 : decode cX3_turned 59 = .ok (.iconst 1, 1) := by decide +kernel
theorem dX3_turned_60 : decode cX3_turned 60 = .ok (.if_icmp .ne 7, 3) := by decide +kernel
theorem dX3_turned_63 : decode cX3_turned 63 = .ok (.iload_n 3, 1) := by decide +kernel
theorem dX3_turned_64 : decode cX3_turned 64 = .ok (.goto 17, 3) := by decide +kernel
theorem dX3_turned_67 : decode cX3_turned 67 = .ok (.iload 4, 2) := by decide +kernel
theorem dX3_turned_69 : decode cX3_turned 69 = .ok (.iconst 2, 1) := by decide +kernel
theorem dX3_turned_70 : decode cX3_turned 70 = .ok (.if_icmp .ne 8, 3) := by decide +kernel
theorem dX3_turned_73 : decode cX3_turned 73 = .ok (.iload_n 3, 1) := by decide +kernel
theorem dX3_turned_74 : decode cX3_turned 74 = .ok (.ineg, 1) := by decide +kernel
theorem dX3_turned_75 : decode cX3_turned 75 = .ok (.goto 6, 3) := by decide +kernel
theorem dX3_turned_78 : decode cX3_turned 78 = .ok (.iload_n 2, 1) := by decide +kernel
theorem dX3_turned_79 : decode cX3_turned 79 = .ok (.iload_n 3, 1) := by decide +kernel
theorem dX3_turned_80 : decode cX3_turned 80 = .ok (.iadd, 1) := by decide +kernel
theorem dX3_turned_81 : decode cX3_turned 81 = .ok (.invokevirtual 101, 3) := by decide +kernel
theorem dX3_turned_84 : decode cX3_turned 84 = .ok (.return_, 1) := by decide +kernel
theorem dX3_begins_0 : decode cX3_begins 0 = .ok (.aload_n 0, 1) := by decide +kernel
theorem dX3_begins_1 : decode cX3_begins 1 = .ok (.getfield 7, 3) := by decide +kernel
theorem dX3_begins_4 : decode cX3_begins 4 = .ok (.iload_n 1, 1) := by decide +kernel
theorem dX3_begins_5 : decode cX3_begins 5 = .ok (.iaload, 1) := by decide +kernel
theorem dX3_begins_6 : decode cX3_begins 6 = .ok (.tableswitch 202 3 13 #[58, 87, 202, 202, 202, 202, 97, 117, 202, 202, 187], 58) := by decide +kernel
theorem dX3_begins_64 : decode cX3_begins 64 = .ok (.aload_n 0, 1) := by decide +kernel
theorem dX3_begins_65 : decode cX3_begins 65 = .ok (.aload_n 0, 1) := by decide +kernel
theorem dX3_begins_66 : decode cX3_begins 66 = .ok (.getfield 13, 3) := by decide +kernel
theorem dX3_begins_69 : decode cX3_begins 69 = .ok (.iload_n 1, 1) := by decide +kernel
theorem dX3_begins_70 : decode cX3_begins 70 = .ok (.iaload, 1) := by decide +kernel
theorem dX3_begins_71 : decode cX3_begins 71 = .ok (.iload_n 2, 1) := by decide +kernel
theorem dX3_begins_72 : decode cX3_begins 72 = .ok (.aload_n 0, 1) := by decide +kernel
theorem dX3_begins_73 : decode cX3_begins 73 = .ok (.getfield 16, 3) := by decide +kernel
theorem dX3_begins_76 : decode cX3_begins 76 = .ok (.iload_n 1, 1) := by decide +kernel
theorem dX3_begins_77 : decode cX3_begins 77 = .ok (.iaload, 1) := by decide +kernel
theorem dX3_begins_78 : decode cX3_begins 78 = .ok (.isub, 1) := by decide +kernel
theorem dX3_begins_79 : decode cX3_begins 79 = .ok (.iload_n 3, 1) := by decide +kernel
theorem dX3_begins_80 : decode cX3_begins 80 = .ok (.aload_n 0, 1) := by decide +kernel
theorem dX3_begins_81 : decode cX3_begins 81 = .ok (.getfield 19, 3) := by decide +kernel
theorem dX3_begins_84 : decode cX3_begins 84 = .ok (.iload_n 1, 1) := by decide +kernel
theorem dX3_begins_85 : decode cX3_begins 85 = .ok (.iaload, 1) := by decide +kernel
theorem dX3_begins_86 : decode cX3_begins 86 = .ok (.isub, 1) := by decide +kernel
theorem dX3_begins_87 : decode cX3_begins 87 = .ok (.invokevirtual 101, 3) := by decide +kernel
theorem dX3_begins_90 : decode cX3_begins 90 = .ok (.goto 130, 3) := by decide +kernel
theorem dX3_begins_93 : decode cX3_begins 93 = .ok (.aload_n 0, 1) := by decide +kernel
theorem dX3_begins_94 : decode cX3_begins 94 = .ok (.iload_n 1, 1) := by decide +kernel
theorem dX3_begins_95 : decode cX3_begins 95 = .ok (.iload_n 2, 1) := by decide +kernel
theorem dX3_begins_96 : decode cX3_begins 96 = .ok (.iload_n 3, 1) := by decide +kernel
theorem dX3_begins_97 : decode cX3_begins 97 = .ok (.invokevirtual 104, 3) := by decide +kernel
theorem dX3_begins_100 : decode cX3_begins 100 = .ok (.goto 120, 3) := by decide +kernel
theorem dX3_begins_103 : decode cX3_begins 103 = .ok (.aload_n 0, 1) := by decide +kernel
theorem dX3_begins_104 : decode cX3_begins 104 = .ok (.aload_n 0, 1) := by decide +kernel
theorem dX3_begins_105 : decode cX3_begins 105 = .ok (.getfield 34, 3) := by decide +kernel
theorem dX3_begins_108 : decode cX3_begins 108 = .ok (.aload_n 0, 1) := by decide +kernel
theorem dX3_begins_109 : decode cX3_begins 109 = .ok (.getfield 13, 3) := by decide +kernel
theorem dX3_begins_112 : decode cX3_begins 112 = .ok (.iload_n 1, 1) := by decide +kernel
theorem dX3_begins_113 : decode cX3_begins 113 = .ok (.iaload, 1) := by decide +kernel
theorem dX3_begins_114 : decode cX3_begins 114 = .ok (.iaload, 1) := by decide +kernel
theorem dX3_begins_115 : decode cX3_begins 115 = .ok (.iload_n 2, 1) := by decide +kernel
theorem dX3_begins_116 : decode cX3_begins 116 = .ok (.iload_n 3, 1) := by decide +kernel
theorem dX3_begins_117 : decode cX3_begins 117 = .ok (.invokevirtual 101, 3) := by decide +kernel
theorem dX3_begins_120 : decode cX3_begins 120 = .ok (.goto 100, 3) := by decide +kernel
theorem dX3_begins_123 : decode cX3_begins 123 = .ok (.aload_n 0, 1) := by decide +kernel
theorem dX3_begins_124 : decode cX3_begins 124 = .ok (.getfield 28, 3) := by decide +kernel
theorem dX3_begins_127 : decode cX3_begins 127 = .ok (.iload_n 1, 1) := by decide +kernel
theorem dX3_begins_128 : decode cX3_begins 128 = .ok (.dup2, 1) := by decide +kernel
theorem dX3_begins_129 : decode cX3_begins 129 = .ok (.iaload, 1) := by decide +kernel
theorem dX3_begins_130 : decode cX3_begins 130 = .ok (.iconst 1, 1) := by decide +kernel
theorem dX3_begins_131 : decode cX3_begins 131 = .ok (.iadd, 1) := by decide +kernel
theorem dX3_begins_132 : decode cX3_begins 132 = .ok (.iastore, 1) := by decide +kernel
theorem dX3_begins_133 : decode cX3_begins 133 = .ok (.aload_n 0, 1) := by decide +kernel
theorem dX3_begins_134 : decode cX3_begins 134 = .ok (.getfield 28, 3) := by decide +kernel
theorem dX3_begins_137 : decode cX3_begins 137 = .ok (.iload_n 1, 1) := by decide +kernel
theorem dX3_begins_138 : decode cX3_begins 138 = .ok (.iaload, 1) := by decide +kernel
theorem dX3_begins_139 : decode cX3_begins 139 = .ok (.aload_n 0, 1) := by decide +kernel
theorem dX3_begins_140 : decode cX3_begins 140 = .ok (.getfield 16, 3) := by decide +kernel
theorem dX3_begins_143 : decode cX3_begins 143 = .ok (.iload_n 1, 1) := by decide +kernel
theorem dX3_begins_144 : decode cX3_begins 144 = .ok (.iaload, 1) := by decide +kernel
theorem dX3_begins_145 : decode cX3_begins 145 = .ok (.if_icmp .ne 33, 3) := by decide +kernel
theorem dX3_begins_148 : decode cX3_begins 148 = .ok (.aload_n 0, 1) := by decide +kernel
theorem dX3_begins_149 : decode cX3_begins 149 = .ok (.getfield 28, 3) := by decide +kernel
theorem dX3_begins_152 : decode cX3_begins 152 = .ok (.iload_n 1, 1) := by decide +kernel
theorem dX3_begins_153 : decode cX3_begins 153 = .ok (.iconst 0, 1) := by decide +kernel
theorem dX3_begins_154 : decode cX3_begins 154 = .ok (.iastore, 1) := by decide +kernel
theorem dX3_begins_155 : decode cX3_begins 155 = .ok (.aload_n 0, 1) := by decide +kernel
theorem dX3_begins_156 : decode cX3_begins 156 = .ok (.dup, 1) := by decide +kernel
theorem dX3_begins_157 : decode cX3_begins 157 = .ok (.getfield 107, 3) := by decide +kernel
theorem dX3_begins_160 : decode cX3_begins 160 = .ok (.iconst 1, 1) := by decide +kernel
theorem dX3_begins_161 : decode cX3_begins 161 = .ok (.iadd, 1) := by decide +kernel
theorem dX3_begins_162 : decode cX3_begins 162 = .ok (.putfield 107, 3) := by decide +kernel
theorem dX3_begins_165 : decode cX3_begins 165 = .ok (.aload_n 0, 1) := by decide +kernel
theorem dX3_begins_166 : decode cX3_begins 166 = .ok (.aload_n 0, 1) := by decide +kernel
theorem dX3_begins_167 : decode cX3_begins 167 = .ok (.getfield 19, 3) := by decide +kernel
theorem dX3_begins_170 : decode cX3_begins 170 = .ok (.iload_n 1, 1) := by decide +kernel
theorem dX3_begins_171 : decode cX3_begins 171 = .ok (.iaload, 1) := by decide +kernel
theorem dX3_begins_172 : decode cX3_begins 172 = .ok (.invokevirtual 86, 3) := by decide +kernel
theorem dX3_begins_175 : decode cX3_begins 175 = .ok (.goto 45, 3) := by decide +kernel
theorem dX3_begins_178 : decode cX3_begins 178 = .ok (.aload_n 0, 1) := by decide +kernel
theorem dX3_begins_179 : decode cX3_begins 179 = .ok (.aload_n 0, 1) := by decide +kernel
theorem dX3_begins_180 : decode cX3_begins 180 = .ok (.getfield 13, 3) := by decide +kernel
theorem dX3_begins_183 : decode cX3_begins 183 = .ok (.iload_n 1, 1) := by decide +kernel
theorem dX3_begins_184 : decode cX3_begins 184 = .ok (.iaload, 1) := by decide +kernel
theorem dX3_begins_185 : decode cX3_begins 185 = .ok (.iload_n 2, 1) := by decide +kernel
theorem dX3_begins_186 : decode cX3_begins 186 = .ok (.iload_n 3, 1) := by decide +kernel
theorem dX3_begins_187 : decode cX3_begins 187 = .ok (.invokevirtual 101, 3) := by decide +kernel
theorem dX3_begins_190 : decode cX3_begins 190 = .ok (.goto 30, 3) := by decide +kernel
theorem dX3_begins_193 : decode cX3_begins 193 = .ok (.aload_n 0, 1) := by decide +kernel
theorem dX3_begins_194 : decode cX3_begins 194 = .ok (.aload_n 0, 1) := by decide +kernel
theorem dX3_begins_195 : decode cX3_begins 195 = .ok (.getfield 25, 3) := by decide +kernel
theorem dX3_begins_198 : decode cX3_begins 198 = .ok (.iload_n 1, 1) := by decide +kernel
theorem dX3_begins_199 : decode cX3_begins 199 = .ok (.iaload, 1) := by decide +kernel
theorem dX3_begins_200 : decode cX3_begins 200 = .ok (.iload_n 2, 1) := by decide +kernel
theorem dX3_begins_201 : decode cX3_begins 201 = .ok (.iload_n 3, 1) := by decide +kernel
theorem dX3_begins_202 : decode cX3_begins 202 = .ok (.invokevirtual 101, 3) := by decide +kernel
theorem dX3_begins_205 : decode cX3_begins 205 = .ok (.goto 15, 3) := by decide +kernel
theorem dX3_begins_208 : decode cX3_begins 208 = .ok (.aload_n 0, 1) := by decide +kernel
theorem dX3_begins_209 : decode cX3_begins 209 = .ok (.aload_n 0, 1) := by decide +kernel
theorem dX3_begins_210 : decode cX3_begins 210 = .ok (.getfield 13, 3) := by decide +kernel
theorem dX3_begins_213 : decode cX3_begins 213 = .ok (.iload_n 1, 1) := by decide +kernel
theorem dX3_begins_214 : decode cX3_begins 214 = .ok (.iaload, 1) := by decide +kernel
theorem dX3_begins_215 : decode cX3_begins 215 = .ok (.iload_n 2, 1) := by decide +kernel
theorem dX3_begins_216 : decode cX3_begins 216 = .ok (.iload_n 3, 1) := by decide +kernel
theorem dX3_begins_217 : decode cX3_begins 217 = .ok (.invokevirtual 101, 3) := by decide +kernel
theorem dX3_begins_220 : decode cX3_begins 220 = .ok (.return_, 1) := by decide +kernel
theorem dX3_goesOn_0 : decode cX3_goesOn 0 = .ok (.aload_n 0, 1) := by decide +kernel
theorem dX3_goesOn_1 : decode cX3_goesOn 1 = .ok (.getfield 7, 3) := by decide +kernel
theorem dX3_goesOn_4 : decode cX3_goesOn 4 = .ok (.iload_n 2, 1) := by decide +kernel
theorem dX3_goesOn_5 : decode cX3_goesOn 5 = .ok (.iaload, 1) := by decide +kernel
theorem dX3_goesOn_6 : decode cX3_goesOn 6 = .ok (.istore_n 3, 1) := by decide +kernel
theorem dX3_goesOn_7 : decode cX3_goesOn 7 = .ok (.aload_n 0, 1) := by decide +kernel
theorem dX3_goesOn_8 : decode cX3_goesOn 8 = .ok (.getfield 46, 3) := by decide +kernel
theorem dX3_goesOn_11 : decode cX3_goesOn 11 = .ok (.iload_n 1, 1) := by decide +kernel
theorem dX3_goesOn_12 : decode cX3_goesOn 12 = .ok (.iaload, 1) := by decide +kernel
theorem dX3_goesOn_13 : decode cX3_goesOn 13 = .ok (.iconst 2, 1) := by decide +kernel
theorem dX3_goesOn_14 : decode cX3_goesOn 14 = .ok (.isub, 1) := by decide +kernel
theorem dX3_goesOn_15 : decode cX3_goesOn 15 = .ok (.istore 4, 2) := by decide +kernel
theorem dX3_goesOn_17 : decode cX3_goesOn 17 = .ok (.aload_n 0, 1) := by decide +kernel
theorem dX3_goesOn_18 : decode cX3_goesOn 18 = .ok (.getfield 83, 3) := by decide +kernel
theorem dX3_goesOn_21 : decode cX3_goesOn 21 = .ok (.istore 5, 2) := by decide +kernel
theorem dX3_goesOn_23 : decode cX3_goesOn 23 = .ok (.iload_n 3, 1) := by decide +kernel
theorem dX3_goesOn_24 : decode cX3_goesOn 24 = .ok (.iconst 5, 1) := by decide +kernel
theorem dX3_goesOn_25 : decode cX3_goesOn 25 = .ok (.if_icmp .ne 38, 3) := by decide +kernel
theorem dX3_goesOn_28 : decode cX3_goesOn 28 = .ok (.iload 4, 2) := by decide +kernel
theorem dX3_goesOn_30 : decode cX3_goesOn 30 = .ok (.ifCond .ne 33, 3) := by decide +kernel
theorem dX3_goesOn_33 : decode cX3_goesOn 33 = .ok (.iload 5, 2) := by decide +kernel
theorem dX3_goesOn_35 : decode cX3_goesOn 35 = .ok (.ifCond .ne 28, 3) := by decide +kernel
theorem dX3_goesOn_38 : decode cX3_goesOn 38 = .ok (.aload_n 0, 1) := by decide +kernel
theorem dX3_goesOn_39 : decode cX3_goesOn 39 = .ok (.aload_n 0, 1) := by decide +kernel
theorem dX3_goesOn_40 : decode cX3_goesOn 40 = .ok (.getfield 16, 3) := by decide +kernel
theorem dX3_goesOn_43 : decode cX3_goesOn 43 = .ok (.iload_n 2, 1) := by decide +kernel
theorem dX3_goesOn_44 : decode cX3_goesOn 44 = .ok (.iaload, 1) := by decide +kernel
theorem dX3_goesOn_45 : decode cX3_goesOn 45 = .ok (.aload_n 0, 1) := by decide +kernel
theorem dX3_goesOn_46 : decode cX3_goesOn 46 = .ok (.getfield 40, 3) := by decide +kernel
theorem dX3_goesOn_49 : decode cX3_goesOn 49 = .ok (.iload_n 1, 1) := by decide +kernel
theorem dX3_goesOn_50 : decode cX3_goesOn 50 = .ok (.iaload, 1) := by decide +kernel
theorem dX3_goesOn_51 : decode cX3_goesOn 51 = .ok (.aload_n 0, 1) := by decide +kernel
theorem dX3_goesOn_52 : decode cX3_goesOn 52 = .ok (.getfield 43, 3) := by decide +kernel
theorem dX3_goesOn_55 : decode cX3_goesOn 55 = .ok (.iload_n 1, 1) := by decide +kernel
theorem dX3_goesOn_56 : decode cX3_goesOn 56 = .ok (.iaload, 1) := by decide +kernel
theorem dX3_goesOn_57 : decode cX3_goesOn 57 = .ok (.invokevirtual 101, 3) := by decide +kernel
theorem dX3_goesOn_60 : decode cX3_goesOn 60 = .ok (.goto 225, 3) := by decide +kernel
theorem dX3_goesOn_63 : decode cX3_goesOn 63 = .ok (.iload_n 3, 1) := by decide +kernel
theorem dX3_goesOn_64 : decode cX3_goesOn 64 = .ok (.bipush 6, 2) := by decide +kernel
theorem dX3_goesOn_66 : decode cX3_goesOn 66 = .ok (.if_icmp .ne 47, 3) := by decide +kernel
theorem dX3_goesOn_69 : decode cX3_goesOn 69 = .ok (.iload 4, 2) := by decide +kernel
theorem dX3_goesOn_71 : decode cX3_goesOn 71 = .ok (.ifCond .ne 42, 3) := by decide +kernel
theorem dX3_goesOn_74 : decode cX3_goesOn 74 = .ok (.aload_n 0, 1) := by decide +kernel
theorem dX3_goesOn_75 : decode cX3_goesOn 75 = .ok (.iload 5, 2) := by decide +kernel
theorem dX3_goesOn_77 : decode cX3_goesOn 77 = .ok (.ifCond .le 12, 3) := by decide +kernel
theorem dX3_goesOn_80 : decode cX3_goesOn 80 = .ok (.aload_n 0, 1) := by decide +kernel
theorem dX3_goesOn_81 : decode cX3_goesOn 81 = .ok (.getfield 16, 3) := by decide +kernel
theorem dX3_goesOn_84 : decode cX3_goesOn 84 = .ok (.iload_n 2, 1) := by decide +kernel
theorem dX3_goesOn_85 : decode cX3_goesOn 85 = .ok (.iaload, 1) := by decide +kernel
theorem dX3_goesOn_86 : decode cX3_goesOn 86 = .ok (.goto 9, 3) := by decide +kernel
theorem dX3_goesOn_89 : decode cX3_goesOn 89 = .ok (.aload_n 0, 1) := by decide +kernel
theorem dX3_goesOn_90 : decode cX3_goesOn 90 = .ok (.getfield 19, 3) := by decide +kernel
theorem dX3_goesOn_93 : decode cX3_goesOn 93 = .ok (.iload_n 2, 1) := by decide +kernel
theorem dX3_goesOn_94 : decode cX3_goesOn 94 = .ok (.iaload, 1) := by decide +kernel
theorem dX3_goesOn_95 : decode cX3_goesOn 95 = .ok (.aload_n 0, 1) := by decide +kernel
theorem dX3_goesOn_96 : decode cX3_goesOn 96 = .ok (.getfield 40, 3) := by decide +kernel
theorem dX3_goesOn_99 : decode cX3_goesOn 99 = .ok (.iload_n 1, 1) := by decide +kernel
theorem dX3_goesOn_100 : decode cX3_goesOn 100 = .ok (.iaload, 1) := by decide +kernel
theorem dX3_goesOn_101 : decode cX3_goesOn 101 = .ok (.aload_n 0, 1) := by decide +kernel
theorem dX3_goesOn_102 : decode cX3_goesOn 102 = .ok (.getfield 43, 3) := by decide +kernel
theorem dX3_goesOn_105 : decode cX3_goesOn 105 = .ok (.iload_n 1, 1) := by decide +kernel
theorem dX3_goesOn_106 : decode cX3_goesOn 106 = .ok (.iaload, 1) := by decide +kernel
theorem dX3_goesOn_107 : decode cX3_goesOn 107 = .ok (.invokevirtual 101, 3) := by decide +kernel
theorem dX3_goesOn_110 : decode cX3_goesOn 110 = .ok (.goto 175, 3) := by decide +kernel
theorem dX3_goesOn_113 : decode cX3_goesOn 113 = .ok (.iload_n 3, 1) := by decide +kernel
theorem dX3_goesOn_114 : decode cX3_goesOn 114 = .ok (.bipush 7, 2) := by decide +kernel
theorem dX3_goesOn_116 : decode cX3_goesOn 116 = .ok (.if_icmp .ne 25, 3) := by decide +kernel
theorem dX3_goesOn_119 : decode cX3_goesOn 119 = .ok (.aload_n 0, 1) := by decide +kernel
theorem dX3_goesOn_120 : decode cX3_goesOn 120 = .ok (.iload 5, 2) := by decide +kernel
theorem dX3_goesOn_122 : decode cX3_goesOn 122 = .ok (.aload_n 0, 1) := by decide +kernel
theorem dX3_goesOn_123 : decode cX3_goesOn 123 = .ok (.aload_n 0, 1) := by decide +kernel
theorem dX3_goesOn_124 : decode cX3_goesOn 124 = .ok (.getfield 16, 3) := by decide +kernel
theorem dX3_goesOn_127 : decode cX3_goesOn 127 = .ok (.iload_n 2, 1) := by decide +kernel
theorem dX3_goesOn_128 : decode cX3_goesOn 128 = .ok (.iaload, 1) := by decide +kernel
theorem dX3_goesOn_129 : decode cX3_goesOn 129 = .ok (.iload 5, 2) := by decide +kernel
theorem dX3_goesOn_131 : decode cX3_goesOn 131 = .ok (.invokevirtual 90, 3) := by decide +kernel
theorem dX3_goesOn_134 : decode cX3_goesOn 134 = .ok (.iconst 0, 1) := by decide +kernel
theorem dX3_goesOn_135 : decode cX3_goesOn 135 = .ok (.invokevirtual 94, 3) := by decide +kernel
theorem dX3_goesOn_138 : decode cX3_goesOn 138 = .ok (.goto 147, 3) := by decide +kernel
theorem dX3_goesOn_141 : decode cX3_goesOn 141 = .ok (.iload_n 3, 1) := by decide +kernel
theorem dX3_goesOn_142 : decode cX3_goesOn 142 = .ok (.bipush 8, 2) := by decide +kernel
theorem dX3_goesOn_144 : decode cX3_goesOn 144 = .ok (.if_icmp .ne 40, 3) := by decide +kernel
theorem dX3_goesOn_147 : decode cX3_goesOn 147 = .ok (.aload_n 0, 1) := by decide +kernel
theorem dX3_goesOn_148 : decode cX3_goesOn 148 = .ok (.iload 5, 2) := by decide +kernel
theorem dX3_goesOn_150 : decode cX3_goesOn 150 = .ok (.iload 5, 2) := by decide +kernel
theorem dX3_goesOn_152 : decode cX3_goesOn 152 = .ok (.iconst 0, 1) := by decide +kernel
theorem dX3_goesOn_153 : decode cX3_goesOn 153 = .ok (.bipush 7, 2) := by decide +kernel
theorem dX3_goesOn_155 : decode cX3_goesOn 155 = .ok (.invokestatic 59, 3) := by decide +kernel
theorem dX3_goesOn_158 : decode cX3_goesOn 158 = .ok (.ifCond .eq 18, 3) := by decide +kernel
theorem dX3_goesOn_161 : decode cX3_goesOn 161 = .ok (.aload_n 0, 1) := by decide +kernel
theorem dX3_goesOn_162 : decode cX3_goesOn 162 = .ok (.getfield 22, 3) := by decide +kernel
theorem dX3_goesOn_165 : decode cX3_goesOn 165 = .ok (.bipush 8, 2) := by decide +kernel
theorem dX3_goesOn_167 : decode cX3_goesOn 167 = .ok (.iload_n 2, 1) := by decide +kernel
theorem dX3_goesOn_168 : decode cX3_goesOn 168 = .ok (.imul, 1) := by decide +kernel
theorem dX3_goesOn_169 : decode cX3_goesOn 169 = .ok (.iload 5, 2) := by decide +kernel
theorem dX3_goesOn_171 : decode cX3_goesOn 171 = .ok (.iadd, 1) := by decide +kernel
theorem dX3_goesOn_172 : decode cX3_goesOn 172 = .ok (.iaload, 1) := by decide +kernel
theorem dX3_goesOn_173 : decode cX3_goesOn 173 = .ok (.goto 4, 3) := by decide +kernel
theorem dX3_goesOn_176 : decode cX3_goesOn 176 = .ok (.iconst 0, 1) := by decide +kernel
theorem dX3_goesOn_177 : decode cX3_goesOn 177 = .ok (.iconst 0, 1) := by decide +kernel
theorem dX3_goesOn_178 : decode cX3_goesOn 178 = .ok (.invokevirtual 94, 3) := by decide +kernel
theorem dX3_goesOn_181 : decode cX3_goesOn 181 = .ok (.goto 104, 3) := by decide +kernel
theorem dX3_goesOn_184 : decode cX3_goesOn 184 = .ok (.iload_n 3, 1) := by decide +kernel
theorem dX3_goesOn_185 : decode cX3_goesOn 185 = .ok (.bipush 9, 2) := by decide +kernel
theorem dX3_goesOn_187 : decode cX3_goesOn 187 = .ok (.if_icmp .ne 19, 3) := by decide +kernel
theorem dX3_goesOn_190 : decode cX3_goesOn 190 = .ok (.aload_n 0, 1) := by decide +kernel
theorem dX3_goesOn_191 : decode cX3_goesOn 191 = .ok (.iload 5, 2) := by decide +kernel
theorem dX3_goesOn_193 : decode cX3_goesOn 193 = .ok (.aload_n 0, 1) := by decide +kernel
theorem dX3_goesOn_194 : decode cX3_goesOn 194 = .ok (.getfield 16, 3) := by decide +kernel
theorem dX3_goesOn_197 : decode cX3_goesOn 197 = .ok (.iload_n 2, 1) := by decide +kernel
theorem dX3_goesOn_198 : decode cX3_goesOn 198 = .ok (.iaload, 1) := by decide +kernel
theorem dX3_goesOn_199 : decode cX3_goesOn 199 = .ok (.iadd, 1) := by decide +kernel
theorem dX3_goesOn_200 : decode cX3_goesOn 200 = .ok (.invokevirtual 86, 3) := by decide +kernel
theorem dX3_goesOn_203 : decode cX3_goesOn 203 = .ok (.goto 82, 3) := by decide +kernel
theorem dX3_goesOn_206 : decode cX3_goesOn 206 = .ok (.iload_n 3, 1) := by decide +kernel
theorem dX3_goesOn_207 : decode cX3_goesOn 207 = .ok (.bipush 11, 2) := by decide +kernel
theorem dX3_goesOn_209 : decode cX3_goesOn 209 = .ok (.if_icmp .ne 41, 3) := by decide +kernel
theorem dX3_goesOn_212 : decode cX3_goesOn 212 = .ok (.iload 4, 2) := by decide +kernel
theorem dX3_goesOn_214 : decode cX3_goesOn 214 = .ok (.ifCond .ne 36, 3) := by decide +kernel
theorem dX3_goesOn_217 : decode cX3_goesOn 217 = .ok (.aload_n 0, 1) := by decide +kernel
theorem dX3_goesOn_218 : decode cX3_goesOn 218 = .ok (.getfield 49, 3) := by decide +kernel
theorem dX3_goesOn_221 : decode cX3_goesOn 221 = .ok (.iload_n 1, 1) := by decide +kernel
theorem dX3_goesOn_222 : decode cX3_goesOn 222 = .ok (.iload 5, 2) := by decide +kernel
theorem dX3_goesOn_224 : decode cX3_goesOn 224 = .ok (.iastore, 1) := by decide +kernel
theorem dX3_goesOn_225 : decode cX3_goesOn 225 = .ok (.aload_n 0, 1) := by decide +kernel
theorem dX3_goesOn_226 : decode cX3_goesOn 226 = .ok (.aload_n 0, 1) := by decide +kernel
theorem dX3_goesOn_227 : decode cX3_goesOn 227 = .ok (.getfield 16, 3) := by decide +kernel
theorem dX3_goesOn_230 : decode cX3_goesOn 230 = .ok (.iload_n 2, 1) := by decide +kernel
theorem dX3_goesOn_231 : decode cX3_goesOn 231 = .ok (.iaload, 1) := by decide +kernel
theorem dX3_goesOn_232 : decode cX3_goesOn 232 = .ok (.aload_n 0, 1) := by decide +kernel
theorem dX3_goesOn_233 : decode cX3_goesOn 233 = .ok (.getfield 40, 3) := by decide +kernel
theorem dX3_goesOn_236 : decode cX3_goesOn 236 = .ok (.iload_n 1, 1) := by decide +kernel
theorem dX3_goesOn_237 : decode cX3_goesOn 237 = .ok (.iaload, 1) := by decide +kernel
theorem dX3_goesOn_238 : decode cX3_goesOn 238 = .ok (.aload_n 0, 1) := by decide +kernel
theorem dX3_goesOn_239 : decode cX3_goesOn 239 = .ok (.getfield 43, 3) := by decide +kernel
theorem dX3_goesOn_242 : decode cX3_goesOn 242 = .ok (.iload_n 1, 1) := by decide +kernel
theorem dX3_goesOn_243 : decode cX3_goesOn 243 = .ok (.iaload, 1) := by decide +kernel
theorem dX3_goesOn_244 : decode cX3_goesOn 244 = .ok (.invokevirtual 101, 3) := by decide +kernel
theorem dX3_goesOn_247 : decode cX3_goesOn 247 = .ok (.goto 38, 3) := by decide +kernel
theorem dX3_goesOn_250 : decode cX3_goesOn 250 = .ok (.iload_n 3, 1) := by decide +kernel
theorem dX3_goesOn_251 : decode cX3_goesOn 251 = .ok (.bipush 11, 2) := by decide +kernel
theorem dX3_goesOn_253 : decode cX3_goesOn 253 = .ok (.if_icmp .ne 26, 3) := by decide +kernel
theorem dX3_goesOn_256 : decode cX3_goesOn 256 = .ok (.aload_n 0, 1) := by decide +kernel
theorem dX3_goesOn_257 : decode cX3_goesOn 257 = .ok (.aload_n 0, 1) := by decide +kernel
theorem dX3_goesOn_258 : decode cX3_goesOn 258 = .ok (.getfield 49, 3) := by decide +kernel
theorem dX3_goesOn_261 : decode cX3_goesOn 261 = .ok (.iload_n 1, 1) := by decide +kernel
theorem dX3_goesOn_262 : decode cX3_goesOn 262 = .ok (.iaload, 1) := by decide +kernel
theorem dX3_goesOn_263 : decode cX3_goesOn 263 = .ok (.aload_n 0, 1) := by decide +kernel
theorem dX3_goesOn_264 : decode cX3_goesOn 264 = .ok (.getfield 19, 3) := by decide +kernel
theorem dX3_goesOn_267 : decode cX3_goesOn 267 = .ok (.iload_n 2, 1) := by decide +kernel
theorem dX3_goesOn_268 : decode cX3_goesOn 268 = .ok (.iaload, 1) := by decide +kernel
theorem dX3_goesOn_269 : decode cX3_goesOn 269 = .ok (.iload 5, 2) := by decide +kernel
theorem dX3_goesOn_271 : decode cX3_goesOn 271 = .ok (.imul, 1) := by decide +kernel
theorem dX3_goesOn_272 : decode cX3_goesOn 272 = .ok (.iadd, 1) := by decide +kernel
theorem dX3_goesOn_273 : decode cX3_goesOn 273 = .ok (.invokevirtual 86, 3) := by decide +kernel
theorem dX3_goesOn_276 : decode cX3_goesOn 276 = .ok (.goto 9, 3) := by decide +kernel
theorem dX3_goesOn_279 : decode cX3_goesOn 279 = .ok (.aload_n 0, 1) := by decide +kernel
theorem dX3_goesOn_280 : decode cX3_goesOn 280 = .ok (.iload 5, 2) := by decide +kernel
theorem dX3_goesOn_282 : decode cX3_goesOn 282 = .ok (.invokevirtual 86, 3) := by decide +kernel
theorem dX3_goesOn_285 : decode cX3_goesOn 285 = .ok (.return_, 1) := by decide +kernel
theorem dX3_falls_0 : decode cX3_falls 0 = .ok (.aload_n 0, 1) := by decide +kernel
theorem dX3_falls_1 : decode cX3_falls 1 = .ok (.dup, 1) := by decide +kernel
theorem dX3_falls_2 : decode cX3_falls 2 = .ok (.getfield 80, 3) := by decide +kernel
theorem dX3_falls_5 : decode cX3_falls 5 = .ok (.iconst 1, 1) := by decide +kernel
theorem dX3_falls_6 : decode cX3_falls 6 = .ok (.isub, 1) := by decide +kernel
theorem dX3_falls_7 : decode cX3_falls 7 = .ok (.putfield 80, 3) := by decide +kernel
theorem dX3_falls_10 : decode cX3_falls 10 = .ok (.aload_n 0, 1) := by decide +kernel
theorem dX3_falls_11 : decode cX3_falls 11 = .ok (.getfield 37, 3) := by decide +kernel
theorem dX3_falls_14 : decode cX3_falls 14 = .ok (.aload_n 0, 1) := by decide +kernel
theorem dX3_falls_15 : decode cX3_falls 15 = .ok (.getfield 80, 3) := by decide +kernel
theorem dX3_falls_18 : decode cX3_falls 18 = .ok (.iaload, 1) := by decide +kernel
theorem dX3_falls_19 : decode cX3_falls 19 = .ok (.istore_n 1, 1) := by decide +kernel
theorem dX3_falls_20 : decode cX3_falls 20 = .ok (.iload_n 1, 1) := by decide +kernel
theorem dX3_falls_21 : decode cX3_falls 21 = .ok (.ifCond .lt 57, 3) := by decide +kernel
theorem dX3_falls_24 : decode cX3_falls 24 = .ok (.aload_n 0, 1) := by decide +kernel
theorem dX3_falls_25 : decode cX3_falls 25 = .ok (.getfield 7, 3) := by decide +kernel
theorem dX3_falls_28 : decode cX3_falls 28 = .ok (.iload_n 1, 1) := by decide +kernel
theorem dX3_falls_29 : decode cX3_falls 29 = .ok (.iaload, 1) := by decide +kernel
theorem dX3_falls_30 : decode cX3_falls 30 = .ok (.bipush 12, 2) := by decide +kernel
theorem dX3_falls_32 : decode cX3_falls 32 = .ok (.if_icmp .ne 46, 3) := by decide +kernel
theorem dX3_falls_35 : decode cX3_falls 35 = .ok (.aload_n 0, 1) := by decide +kernel
theorem dX3_falls_36 : decode cX3_falls 36 = .ok (.getfield 77, 3) := by decide +kernel
theorem dX3_falls_39 : decode cX3_falls 39 = .ok (.iconst 4, 1) := by decide +kernel
theorem dX3_falls_40 : decode cX3_falls 40 = .ok (.if_icmp .eq 38, 3) := by decide +kernel
theorem dX3_falls_43 : decode cX3_falls 43 = .ok (.aload_n 0, 1) := by decide +kernel
theorem dX3_falls_44 : decode cX3_falls 44 = .ok (.getfield 16, 3) := by decide +kernel
theorem dX3_falls_47 : decode cX3_falls 47 = .ok (.iload_n 1, 1) := by decide +kernel
theorem dX3_falls_48 : decode cX3_falls 48 = .ok (.iaload, 1) := by decide +kernel
theorem dX3_falls_49 : decode cX3_falls 49 = .ok (.ifCond .eq 16, 3) := by decide +kernel
theorem dX3_falls_52 : decode cX3_falls 52 = .ok (.aload_n 0, 1) := by decide +kernel
theorem dX3_falls_53 : decode cX3_falls 53 = .ok (.getfield 16, 3) := by decide +kernel
theorem dX3_falls_56 : decode cX3_falls 56 = .ok (.iload_n 1, 1) := by decide +kernel
theorem dX3_falls_57 : decode cX3_falls 57 = .ok (.iaload, 1) := by decide +kernel
theorem dX3_falls_58 : decode cX3_falls 58 = .ok (.aload_n 0, 1) := by decide +kernel
theorem dX3_falls_59 : decode cX3_falls 59 = .ok (.getfield 77, 3) := by decide +kernel
theorem dX3_falls_62 : decode cX3_falls 62 = .ok (.if_icmp .ne 16, 3) := by decide +kernel
theorem dX3_falls_65 : decode cX3_falls 65 = .ok (.aload_n 0, 1) := by decide +kernel
theorem dX3_falls_66 : decode cX3_falls 66 = .ok (.getfield 110, 3) := by decide +kernel
theorem dX3_falls_69 : decode cX3_falls 69 = .ok (.bipush 20, 2) := by decide +kernel
theorem dX3_falls_71 : decode cX3_falls 71 = .ok (.if_icmp .ge 7, 3) := by decide +kernel
theorem dX3_falls_74 : decode cX3_falls 74 = .ok (.iconst 1, 1) := by decide +kernel
theorem dX3_falls_75 : decode cX3_falls 75 = .ok (.goto 4, 3) := by decide +kernel
theorem dX3_falls_78 : decode cX3_falls 78 = .ok (.iconst 0, 1) := by decide +kernel
theorem dX3_falls_79 : decode cX3_falls 79 = .ok (.istore_n 2, 1) := by decide +kernel
theorem dX3_falls_80 : decode cX3_falls 80 = .ok (.iload_n 2, 1) := by decide +kernel
theorem dX3_falls_81 : decode cX3_falls 81 = .ok (.ifCond .eq 28, 3) := by decide +kernel
theorem dX3_falls_84 : decode cX3_falls 84 = .ok (.aload_n 0, 1) := by decide +kernel
theorem dX3_falls_85 : decode cX3_falls 85 = .ok (.dup, 1) := by decide +kernel
theorem dX3_falls_86 : decode cX3_falls 86 = .ok (.getfield 110, 3) := by decide +kernel
theorem dX3_falls_89 : decode cX3_falls 89 = .ok (.iconst 1, 1) := by decide +kernel
theorem dX3_falls_90 : decode cX3_falls 90 = .ok (.iadd, 1) := by decide +kernel
theorem dX3_falls_91 : decode cX3_falls 91 = .ok (.putfield 110, 3) := by decide +kernel
theorem dX3_falls_94 : decode cX3_falls 94 = .ok (.aload_n 0, 1) := by decide +kernel
theorem dX3_falls_95 : decode cX3_falls 95 = .ok (.iconst 0, 1) := by decide +kernel
theorem dX3_falls_96 : decode cX3_falls 96 = .ok (.putfield 77, 3) := by decide +kernel
theorem dX3_falls_99 : decode cX3_falls 99 = .ok (.aload_n 0, 1) := by decide +kernel
theorem dX3_falls_100 : decode cX3_falls 100 = .ok (.aload_n 0, 1) := by decide +kernel
theorem dX3_falls_101 : decode cX3_falls 101 = .ok (.getfield 19, 3) := by decide +kernel
theorem dX3_falls_104 : decode cX3_falls 104 = .ok (.iload_n 1, 1) := by decide +kernel
theorem dX3_falls_105 : decode cX3_falls 105 = .ok (.iaload, 1) := by decide +kernel
theorem dX3_falls_106 : decode cX3_falls 106 = .ok (.putfield 83, 3) := by decide +kernel
theorem dX3_falls_109 : decode cX3_falls 109 = .ok (.return_, 1) := by decide +kernel
theorem dX3_work_0 : decode cX3_work 0 = .ok (.aload_n 0, 1) := by decide +kernel
theorem dX3_work_1 : decode cX3_work 1 = .ok (.iconst 0, 1) := by decide +kernel
theorem dX3_work_2 : decode cX3_work 2 = .ok (.putfield 74, 3) := by decide +kernel
theorem dX3_work_5 : decode cX3_work 5 = .ok (.aload_n 0, 1) := by decide +kernel
theorem dX3_work_6 : decode cX3_work 6 = .ok (.iconst 0, 1) := by decide +kernel
theorem dX3_work_7 : decode cX3_work 7 = .ok (.putfield 77, 3) := by decide +kernel
theorem dX3_work_10 : decode cX3_work 10 = .ok (.aload_n 0, 1) := by decide +kernel
theorem dX3_work_11 : decode cX3_work 11 = .ok (.iconst 0, 1) := by decide +kernel
theorem dX3_work_12 : decode cX3_work 12 = .ok (.putfield 80, 3) := by decide +kernel
theorem dX3_work_15 : decode cX3_work 15 = .ok (.aload_n 0, 1) := by decide +kernel
theorem dX3_work_16 : decode cX3_work 16 = .ok (.iconst 0, 1) := by decide +kernel
theorem dX3_work_17 : decode cX3_work 17 = .ok (.putfield 83, 3) := by decide +kernel
theorem dX3_work_20 : decode cX3_work 20 = .ok (.aload_n 0, 1) := by decide +kernel
theorem dX3_work_21 : decode cX3_work 21 = .ok (.iload_n 1, 1) := by decide +kernel
theorem dX3_work_22 : decode cX3_work 22 = .ok (.iload_n 2, 1) := by decide +kernel
theorem dX3_work_23 : decode cX3_work 23 = .ok (.iload_n 3, 1) := by decide +kernel
theorem dX3_work_24 : decode cX3_work 24 = .ok (.invokevirtual 101, 3) := by decide +kernel
theorem dX3_work_27 : decode cX3_work 27 = .ok (.aload_n 0, 1) := by decide +kernel
theorem dX3_work_28 : decode cX3_work 28 = .ok (.getfield 80, 3) := by decide +kernel
theorem dX3_work_31 : decode cX3_work 31 = .ok (.ifCond .le 136, 3) := by decide +kernel
theorem dX3_work_34 : decode cX3_work 34 = .ok (.aload_n 0, 1) := by decide +kernel
theorem dX3_work_35 : decode cX3_work 35 = .ok (.getfield 80, 3) := by decide +kernel
theorem dX3_work_38 : decode cX3_work 38 = .ok (.iconst 1, 1) := by decide +kernel
theorem dX3_work_39 : decode cX3_work 39 = .ok (.isub, 1) := by decide +kernel
theorem dX3_work_40 : decode cX3_work 40 = .ok (.istore 4, 2) := by decide +kernel
theorem dX3_work_42 : decode cX3_work 42 = .ok (.aload_n 0, 1) := by decide +kernel
theorem dX3_work_43 : decode cX3_work 43 = .ok (.getfield 37, 3) := by decide +kernel
theorem dX3_work_46 : decode cX3_work 46 = .ok (.iload 4, 2) := by decide +kernel
theorem dX3_work_48 : decode cX3_work 48 = .ok (.iaload, 1) := by decide +kernel
theorem dX3_work_49 : decode cX3_work 49 = .ok (.istore 5, 2) := by decide +kernel
theorem dX3_work_51 : decode cX3_work 51 = .ok (.aload_n 0, 1) := by decide +kernel
theorem dX3_work_52 : decode cX3_work 52 = .ok (.getfield 77, 3) := by decide +kernel
theorem dX3_work_55 : decode cX3_work 55 = .ok (.ifCond .eq 10, 3) := by decide +kernel
theorem dX3_work_58 : decode cX3_work 58 = .ok (.aload_n 0, 1) := by decide +kernel
theorem dX3_work_59 : decode cX3_work 59 = .ok (.invokevirtual 113, 3) := by decide +kernel
theorem dX3_work_62 : decode cX3_work 62 = .ok (.goto 102, 3) := by decide +kernel
theorem dX3_work_65 : decode cX3_work 65 = .ok (.iload 5, 2) := by decide +kernel
theorem dX3_work_67 : decode cX3_work 67 = .ok (.ifCond .lt 14, 3) := by decide +kernel
theorem dX3_work_70 : decode cX3_work 70 = .ok (.aload_n 0, 1) := by decide +kernel
theorem dX3_work_71 : decode cX3_work 71 = .ok (.getfield 7, 3) := by decide +kernel
theorem dX3_work_74 : decode cX3_work 74 = .ok (.iload 5, 2) := by decide +kernel
theorem dX3_work_76 : decode cX3_work 76 = .ok (.iaload, 1) := by decide +kernel
theorem dX3_work_77 : decode cX3_work 77 = .ok (.iconst 3, 1) := by decide +kernel
theorem dX3_work_78 : decode cX3_work 78 = .ok (.if_icmp .ge 26, 3) := by decide +kernel
theorem dX3_work_81 : decode cX3_work 81 = .ok (.aload_n 0, 1) := by decide +kernel
theorem dX3_work_82 : decode cX3_work 82 = .ok (.iload 5, 2) := by decide +kernel
theorem dX3_work_84 : decode cX3_work 84 = .ok (.aload_n 0, 1) := by decide +kernel
theorem dX3_work_85 : decode cX3_work 85 = .ok (.getfield 40, 3) := by decide +kernel
theorem dX3_work_88 : decode cX3_work 88 = .ok (.iload 4, 2) := by decide +kernel
theorem dX3_work_90 : decode cX3_work 90 = .ok (.iaload, 1) := by decide +kernel
theorem dX3_work_91 : decode cX3_work 91 = .ok (.aload_n 0, 1) := by decide +kernel
theorem dX3_work_92 : decode cX3_work 92 = .ok (.getfield 43, 3) := by decide +kernel
theorem dX3_work_95 : decode cX3_work 95 = .ok (.iload 4, 2) := by decide +kernel
theorem dX3_work_97 : decode cX3_work 97 = .ok (.iaload, 1) := by decide +kernel
theorem dX3_work_98 : decode cX3_work 98 = .ok (.invokevirtual 116, 3) := by decide +kernel
theorem dX3_work_101 : decode cX3_work 101 = .ok (.goto 63, 3) := by decide +kernel
theorem dX3_work_104 : decode cX3_work 104 = .ok (.aload_n 0, 1) := by decide +kernel
theorem dX3_work_105 : decode cX3_work 105 = .ok (.getfield 46, 3) := by decide +kernel
theorem dX3_work_108 : decode cX3_work 108 = .ok (.iload 4, 2) := by decide +kernel
theorem dX3_work_110 : decode cX3_work 110 = .ok (.iaload, 1) := by decide +kernel
theorem dX3_work_111 : decode cX3_work 111 = .ok (.ifCond .ne 34, 3) := by decide +kernel
theorem dX3_work_114 : decode cX3_work 114 = .ok (.aload_n 0, 1) := by decide +kernel
theorem dX3_work_115 : decode cX3_work 115 = .ok (.getfield 46, 3) := by decide +kernel
theorem dX3_work_118 : decode cX3_work 118 = .ok (.iload 4, 2) := by decide +kernel
theorem dX3_work_120 : decode cX3_work 120 = .ok (.iconst 1, 1) := by decide +kernel
theorem dX3_work_121 : decode cX3_work 121 = .ok (.iastore, 1) := by decide +kernel
theorem dX3_work_122 : decode cX3_work 122 = .ok (.aload_n 0, 1) := by decide +kernel
theorem dX3_work_123 : decode cX3_work 123 = .ok (.iload 5, 2) := by decide +kernel
theorem dX3_work_125 : decode cX3_work 125 = .ok (.aload_n 0, 1) := by decide +kernel
theorem dX3_work_126 : decode cX3_work 126 = .ok (.getfield 40, 3) := by decide +kernel
theorem dX3_work_129 : decode cX3_work 129 = .ok (.iload 4, 2) := by decide +kernel
theorem dX3_work_131 : decode cX3_work 131 = .ok (.iaload, 1) := by decide +kernel
theorem dX3_work_132 : decode cX3_work 132 = .ok (.aload_n 0, 1) := by decide +kernel
theorem dX3_work_133 : decode cX3_work 133 = .ok (.getfield 43, 3) := by decide +kernel
theorem dX3_work_136 : decode cX3_work 136 = .ok (.iload 4, 2) := by decide +kernel
theorem dX3_work_138 : decode cX3_work 138 = .ok (.iaload, 1) := by decide +kernel
theorem dX3_work_139 : decode cX3_work 139 = .ok (.invokevirtual 119, 3) := by decide +kernel
theorem dX3_work_142 : decode cX3_work 142 = .ok (.goto 22, 3) := by decide +kernel
theorem dX3_work_145 : decode cX3_work 145 = .ok (.aload_n 0, 1) := by decide +kernel
theorem dX3_work_146 : decode cX3_work 146 = .ok (.getfield 46, 3) := by decide +kernel
theorem dX3_work_149 : decode cX3_work 149 = .ok (.iload 4, 2) := by decide +kernel
theorem dX3_work_151 : decode cX3_work 151 = .ok (.dup2, 1) := by decide +kernel
theorem dX3_work_152 : decode cX3_work 152 = .ok (.iaload, 1) := by decide +kernel
theorem dX3_work_153 : decode cX3_work 153 = .ok (.iconst 1, 1) := by decide +kernel
theorem dX3_work_154 : decode cX3_work 154 = .ok (.iadd, 1) := by decide +kernel
theorem dX3_work_155 : decode cX3_work 155 = .ok (.iastore, 1) := by decide +kernel
theorem dX3_work_156 : decode cX3_work 156 = .ok (.aload_n 0, 1) := by decide +kernel
theorem dX3_work_157 : decode cX3_work 157 = .ok (.iload 4, 2) := by decide +kernel
theorem dX3_work_159 : decode cX3_work 159 = .ok (.iload 5, 2) := by decide +kernel
theorem dX3_work_161 : decode cX3_work 161 = .ok (.invokevirtual 122, 3) := by decide +kernel
theorem dX3_work_164 : decode cX3_work 164 = .ok (.goto (-137), 3) := by decide +kernel
theorem dX3_work_167 : decode cX3_work 167 = .ok (.return_, 1) := by decide +kernel
theorem dX3_ask_0 : decode cX3_ask 0 = .ok (.aload_n 0, 1) := by decide +kernel
theorem dX3_ask_1 : decode cX3_ask 1 = .ok (.aload_n 0, 1) := by decide +kernel
theorem dX3_ask_2 : decode cX3_ask 2 = .ok (.iload_n 1, 1) := by decide +kernel
theorem dX3_ask_3 : decode cX3_ask 3 = .ok (.invokevirtual 66, 3) := by decide +kernel
theorem dX3_ask_6 : decode cX3_ask 6 = .ok (.ifCond .eq 7, 3) := by decide +kernel
theorem dX3_ask_9 : decode cX3_ask 9 = .ok (.iconst 0, 1) := by decide +kernel
theorem dX3_ask_10 : decode cX3_ask 10 = .ok (.goto 5, 3) := by decide +kernel
theorem dX3_ask_13 : decode cX3_ask 13 = .ok (.bipush (-3), 2) := by decide +kernel
theorem dX3_ask_15 : decode cX3_ask 15 = .ok (.putfield 63, 3) := by decide +kernel
theorem dX3_ask_18 : decode cX3_ask 18 = .ok (.aload_n 0, 1) := by decide +kernel
theorem dX3_ask_19 : decode cX3_ask 19 = .ok (.getfield 63, 3) := by decide +kernel
theorem dX3_ask_22 : decode cX3_ask 22 = .ok (.ifCond .eq 5, 3) := by decide +kernel
theorem dX3_ask_25 : decode cX3_ask 25 = .ok (.iconst 0, 1) := by decide +kernel
theorem dX3_ask_26 : decode cX3_ask 26 = .ok (.ireturn, 1) := by decide +kernel
theorem dX3_ask_27 : decode cX3_ask 27 = .ok (.aload_n 0, 1) := by decide +kernel
theorem dX3_ask_28 : decode cX3_ask 28 = .ok (.iconst 0, 1) := by decide +kernel
theorem dX3_ask_29 : decode cX3_ask 29 = .ok (.putfield 110, 3) := by decide +kernel
theorem dX3_ask_32 : decode cX3_ask 32 = .ok (.aload_n 0, 1) := by decide +kernel
theorem dX3_ask_33 : decode cX3_ask 33 = .ok (.iload_n 1, 1) := by decide +kernel
theorem dX3_ask_34 : decode cX3_ask 34 = .ok (.iload_n 2, 1) := by decide +kernel
theorem dX3_ask_35 : decode cX3_ask 35 = .ok (.iload_n 3, 1) := by decide +kernel
theorem dX3_ask_36 : decode cX3_ask 36 = .ok (.invokevirtual 126, 3) := by decide +kernel
theorem dX3_ask_39 : decode cX3_ask 39 = .ok (.aload_n 0, 1) := by decide +kernel
theorem dX3_ask_40 : decode cX3_ask 40 = .ok (.aload_n 0, 1) := by decide +kernel
theorem dX3_ask_41 : decode cX3_ask 41 = .ok (.getfield 77, 3) := by decide +kernel
theorem dX3_ask_44 : decode cX3_ask 44 = .ok (.ifCond .ne 7, 3) := by decide +kernel
theorem dX3_ask_47 : decode cX3_ask 47 = .ok (.iconst 0, 1) := by decide +kernel
theorem dX3_ask_48 : decode cX3_ask 48 = .ok (.goto 10, 3) := by decide +kernel
theorem dX3_ask_51 : decode cX3_ask 51 = .ok (.bipush (-10), 2) := by decide +kernel
theorem dX3_ask_53 : decode cX3_ask 53 = .ok (.aload_n 0, 1) := by decide +kernel
theorem dX3_ask_54 : decode cX3_ask 54 = .ok (.getfield 77, 3) := by decide +kernel
theorem dX3_ask_57 : decode cX3_ask 57 = .ok (.isub, 1) := by decide +kernel
theorem dX3_ask_58 : decode cX3_ask 58 = .ok (.putfield 63, 3) := by decide +kernel
theorem dX3_ask_61 : decode cX3_ask 61 = .ok (.aload_n 0, 1) := by decide +kernel
theorem dX3_ask_62 : decode cX3_ask 62 = .ok (.getfield 77, 3) := by decide +kernel
theorem dX3_ask_65 : decode cX3_ask 65 = .ok (.ifCond .ne 10, 3) := by decide +kernel
theorem dX3_ask_68 : decode cX3_ask 68 = .ok (.aload_n 0, 1) := by decide +kernel
theorem dX3_ask_69 : decode cX3_ask 69 = .ok (.getfield 83, 3) := by decide +kernel
theorem dX3_ask_72 : decode cX3_ask 72 = .ok (.goto 4, 3) := by decide +kernel
theorem dX3_ask_75 : decode cX3_ask 75 = .ok (.iconst 0, 1) := by decide +kernel
theorem dX3_ask_76 : decode cX3_ask 76 = .ok (.ireturn, 1) := by decide +kernel
theorem dX3_weave_0 : decode cX3_weave 0 = .ok (.aload_n 0, 1) := by decide +kernel
theorem dX3_weave_1 : decode cX3_weave 1 = .ok (.iload_n 1, 1) := by decide +kernel
theorem dX3_weave_2 : decode cX3_weave 2 = .ok (.invokevirtual 66, 3) := by decide +kernel
theorem dX3_weave_5 : decode cX3_weave 5 = .ok (.ifCond .ne 6, 3) := by decide +kernel
theorem dX3_weave_8 : decode cX3_weave 8 = .ok (.bipush (-3), 2) := by decide +kernel
theorem dX3_weave_10 : decode cX3_weave 10 = .ok (.ireturn, 1) := by decide +kernel
theorem dX3_weave_11 : decode cX3_weave 11 = .ok (.iload 4, 2) := by decide +kernel
theorem dX3_weave_13 : decode cX3_weave 13 = .ok (.iconst 1, 1) := by decide +kernel
theorem dX3_weave_14 : decode cX3_weave 14 = .ok (.bipush 12, 2) := by decide +kernel
theorem dX3_weave_16 : decode cX3_weave 16 = .ok (.invokestatic 59, 3) := by decide +kernel
theorem dX3_weave_19 : decode cX3_weave 19 = .ok (.ifCond .eq 14, 3) := by decide +kernel
theorem dX3_weave_22 : decode cX3_weave 22 = .ok (.iload 5, 2) := by decide +kernel
theorem dX3_weave_24 : decode cX3_weave 24 = .ok (.iconst 1, 1) := by decide +kernel
theorem dX3_weave_25 : decode cX3_weave 25 = .ok (.bipush 12, 2) := by decide +kernel
theorem dX3_weave_27 : decode cX3_weave 27 = .ok (.invokestatic 59, 3) := by decide +kernel
theorem dX3_weave_30 : decode cX3_weave 30 = .ok (.ifCond .ne 6, 3) := by decide +kernel
theorem dX3_weave_33 : decode cX3_weave 33 = .ok (.bipush (-2), 2) := by decide +kernel
theorem dX3_weave_35 : decode cX3_weave 35 = .ok (.ireturn, 1) := by decide +kernel
theorem dX3_weave_36 : decode cX3_weave 36 = .ok (.aload_n 0, 1) := by decide +kernel
theorem dX3_weave_37 : decode cX3_weave 37 = .ok (.iconst 0, 1) := by decide +kernel
theorem dX3_weave_38 : decode cX3_weave 38 = .ok (.putfield 110, 3) := by decide +kernel
theorem dX3_weave_41 : decode cX3_weave 41 = .ok (.aload_n 0, 1) := by decide +kernel
theorem dX3_weave_42 : decode cX3_weave 42 = .ok (.iconst 0, 1) := by decide +kernel
theorem dX3_weave_43 : decode cX3_weave 43 = .ok (.putfield 129, 3) := by decide +kernel
theorem dX3_weave_46 : decode cX3_weave 46 = .ok (.aload_n 0, 1) := by decide +kernel
theorem dX3_weave_47 : decode cX3_weave 47 = .ok (.iload 4, 2) := by decide +kernel
theorem dX3_weave_49 : decode cX3_weave 49 = .ok (.putfield 132, 3) := by decide +kernel
theorem dX3_weave_52 : decode cX3_weave 52 = .ok (.iconst 0, 1) := by decide +kernel
theorem dX3_weave_53 : decode cX3_weave 53 = .ok (.istore 6, 2) := by decide +kernel
theorem dX3_weave_55 : decode cX3_weave 55 = .ok (.iload 6, 2) := by decide +kernel
theorem dX3_weave_57 : decode cX3_weave 57 = .ok (.iload 4, 2) := by decide +kernel
theorem dX3_weave_59 : decode cX3_weave 59 = .ok (.iload 5, 2) := by decide +kernel
theorem dX3_weave_61 : decode cX3_weave 61 = .ok (.imul, 1) := by decide +kernel
theorem dX3_weave_62 : decode cX3_weave 62 = .ok (.if_icmp .ge 66, 3) := by decide +kernel
theorem dX3_weave_65 : decode cX3_weave 65 = .ok (.aload_n 0, 1) := by decide +kernel
theorem dX3_weave_66 : decode cX3_weave 66 = .ok (.iload_n 1, 1) := by decide +kernel
theorem dX3_weave_67 : decode cX3_weave 67 = .ok (.iload_n 2, 1) := by decide +kernel
theorem dX3_weave_68 : decode cX3_weave 68 = .ok (.iload 6, 2) := by decide +kernel
theorem dX3_weave_70 : decode cX3_weave 70 = .ok (.iload 4, 2) := by decide +kernel
theorem dX3_weave_72 : decode cX3_weave 72 = .ok (.irem, 1) := by decide +kernel
theorem dX3_weave_73 : decode cX3_weave 73 = .ok (.iadd, 1) := by decide +kernel
theorem dX3_weave_74 : decode cX3_weave 74 = .ok (.iload_n 3, 1) := by decide +kernel
theorem dX3_weave_75 : decode cX3_weave 75 = .ok (.iload 6, 2) := by decide +kernel
theorem dX3_weave_77 : decode cX3_weave 77 = .ok (.iload 4, 2) := by decide +kernel
theorem dX3_weave_79 : decode cX3_weave 79 = .ok (.idiv, 1) := by decide +kernel
theorem dX3_weave_80 : decode cX3_weave 80 = .ok (.iadd, 1) := by decide +kernel
theorem dX3_weave_81 : decode cX3_weave 81 = .ok (.invokevirtual 126, 3) := by decide +kernel
theorem dX3_weave_84 : decode cX3_weave 84 = .ok (.aload_n 0, 1) := by decide +kernel
theorem dX3_weave_85 : decode cX3_weave 85 = .ok (.getfield 77, 3) := by decide +kernel
theorem dX3_weave_88 : decode cX3_weave 88 = .ok (.ifCond .eq 11, 3) := by decide +kernel
theorem dX3_weave_91 : decode cX3_weave 91 = .ok (.bipush (-10), 2) := by decide +kernel
theorem dX3_weave_93 : decode cX3_weave 93 = .ok (.aload_n 0, 1) := by decide +kernel
theorem dX3_weave_94 : decode cX3_weave 94 = .ok (.getfield 77, 3) := by decide +kernel
theorem dX3_weave_97 : decode cX3_weave 97 = .ok (.isub, 1) := by decide +kernel
theorem dX3_weave_98 : decode cX3_weave 98 = .ok (.ireturn, 1) := by decide +kernel
theorem dX3_weave_99 : decode cX3_weave 99 = .ok (.aload_n 0, 1) := by decide +kernel
theorem dX3_weave_100 : decode cX3_weave 100 = .ok (.getfield 52, 3) := by decide +kernel
theorem dX3_weave_103 : decode cX3_weave 103 = .ok (.aload_n 0, 1) := by decide +kernel
theorem dX3_weave_104 : decode cX3_weave 104 = .ok (.getfield 129, 3) := by decide +kernel
theorem dX3_weave_107 : decode cX3_weave 107 = .ok (.aload_n 0, 1) := by decide +kernel
theorem dX3_weave_108 : decode cX3_weave 108 = .ok (.getfield 83, 3) := by decide +kernel
theorem dX3_weave_111 : decode cX3_weave 111 = .ok (.iastore, 1) := by decide +kernel
theorem dX3_weave_112 : decode cX3_weave 112 = .ok (.aload_n 0, 1) := by decide +kernel
theorem dX3_weave_113 : decode cX3_weave 113 = .ok (.dup, 1) := by decide +kernel
theorem dX3_weave_114 : decode cX3_weave 114 = .ok (.getfield 129, 3) := by decide +kernel
theorem dX3_weave_117 : decode cX3_weave 117 = .ok (.iconst 1, 1) := by decide +kernel
theorem dX3_weave_118 : decode cX3_weave 118 = .ok (.iadd, 1) := by decide +kernel
theorem dX3_weave_119 : decode cX3_weave 119 = .ok (.putfield 129, 3) := by decide +kernel
theorem dX3_weave_122 : decode cX3_weave 122 = .ok (.iinc 6 1, 3) := by decide +kernel
theorem dX3_weave_125 : decode cX3_weave 125 = .ok (.goto (-70), 3) := by decide +kernel
theorem dX3_weave_128 : decode cX3_weave 128 = .ok (.aload_n 0, 1) := by decide +kernel
theorem dX3_weave_129 : decode cX3_weave 129 = .ok (.getfield 129, 3) := by decide +kernel
theorem dX3_weave_132 : decode cX3_weave 132 = .ok (.ireturn, 1) := by decide +kernel
theorem dX3_cloth_0 : decode cX3_cloth 0 = .ok (.iload_n 1, 1) := by decide +kernel
theorem dX3_cloth_1 : decode cX3_cloth 1 = .ok (.iconst 0, 1) := by decide +kernel
theorem dX3_cloth_2 : decode cX3_cloth 2 = .ok (.aload_n 0, 1) := by decide +kernel
theorem dX3_cloth_3 : decode cX3_cloth 3 = .ok (.getfield 129, 3) := by decide +kernel
theorem dX3_cloth_6 : decode cX3_cloth 6 = .ok (.iconst 1, 1) := by decide +kernel
theorem dX3_cloth_7 : decode cX3_cloth 7 = .ok (.isub, 1) := by decide +kernel
theorem dX3_cloth_8 : decode cX3_cloth 8 = .ok (.invokestatic 59, 3) := by decide +kernel
theorem dX3_cloth_11 : decode cX3_cloth 11 = .ok (.ifCond .eq 12, 3) := by decide +kernel
theorem dX3_cloth_14 : decode cX3_cloth 14 = .ok (.aload_n 0, 1) := by decide +kernel
theorem dX3_cloth_15 : decode cX3_cloth 15 = .ok (.getfield 52, 3) := by decide +kernel
theorem dX3_cloth_18 : decode cX3_cloth 18 = .ok (.iload_n 1, 1) := by decide +kernel
theorem dX3_cloth_19 : decode cX3_cloth 19 = .ok (.iaload, 1) := by decide +kernel
theorem dX3_cloth_20 : decode cX3_cloth 20 = .ok (.goto 4, 3) := by decide +kernel
theorem dX3_cloth_23 : decode cX3_cloth 23 = .ok (.iconst 0, 1) := by decide +kernel
theorem dX3_cloth_24 : decode cX3_cloth 24 = .ok (.ireturn, 1) := by decide +kernel
theorem dX3_changes_0 : decode cX3_changes 0 = .ok (.iconst 0, 1) := by decide +kernel
theorem dX3_changes_1 : decode cX3_changes 1 = .ok (.istore_n 1, 1) := by decide +kernel
theorem dX3_changes_2 : decode cX3_changes 2 = .ok (.iconst 0, 1) := by decide +kernel
theorem dX3_changes_3 : decode cX3_changes 3 = .ok (.istore_n 2, 1) := by decide +kernel
theorem dX3_changes_4 : decode cX3_changes 4 = .ok (.iload_n 2, 1) := by decide +kernel
theorem dX3_changes_5 : decode cX3_changes 5 = .ok (.aload_n 0, 1) := by decide +kernel
theorem dX3_changes_6 : decode cX3_changes 6 = .ok (.getfield 129, 3) := by decide +kernel
theorem dX3_changes_9 : decode cX3_changes 9 = .ok (.if_icmp .ge 43, 3) := by decide +kernel
theorem dX3_changes_12 : decode cX3_changes 12 = .ok (.iload_n 1, 1) := by decide +kernel
theorem dX3_changes_13 : decode cX3_changes 13 = .ok (.iload_n 2, 1) := by decide +kernel
theorem dX3_changes_14 : decode cX3_changes 14 = .ok (.aload_n 0, 1) := by decide +kernel
theorem dX3_changes_15 : decode cX3_changes 15 = .ok (.getfield 132, 3) := by decide +kernel
theorem dX3_changes_18 : decode cX3_changes 18 = .ok (.irem, 1) := by decide +kernel
theorem dX3_changes_19 : decode cX3_changes 19 = .ok (.ifCond .le 24, 3) := by decide +kernel
theorem dX3_changes_22 : decode cX3_changes 22 = .ok (.aload_n 0, 1) := by decide +kernel
theorem dX3_changes_23 : decode cX3_changes 23 = .ok (.getfield 52, 3) := by decide +kernel
theorem dX3_changes_26 : decode cX3_changes 26 = .ok (.iload_n 2, 1) := by decide +kernel
theorem dX3_changes_27 : decode cX3_changes 27 = .ok (.iaload, 1) := by decide +kernel
theorem dX3_changes_28 : decode cX3_changes 28 = .ok (.aload_n 0, 1) := by decide +kernel
theorem dX3_changes_29 : decode cX3_changes 29 = .ok (.getfield 52, 3) := by decide +kernel
theorem dX3_changes_32 : decode cX3_changes 32 = .ok (.iload_n 2, 1) := by decide +kernel
theorem dX3_changes_33 : decode cX3_changes 33 = .ok (.iconst 1, 1) := by decide +kernel
theorem dX3_changes_34 : decode cX3_changes 34 = .ok (.isub, 1) := by decide +kernel
theorem dX3_changes_35 : decode cX3_changes 35 = .ok (.iaload, 1) := by decide +kernel
theorem dX3_changes_36 : decode cX3_changes 36 = .ok (.if_icmp .eq 7, 3) := by decide +kernel
theorem dX3_changes_39 : decode cX3_changes 39 = .ok (.iconst 1, 1) := by decide +kernel
theorem dX3_changes_40 : decode cX3_changes 40 = .ok (.goto 4, 3) := by decide +kernel
theorem dX3_changes_43 : decode cX3_changes 43 = .ok (.iconst 0, 1) := by decide +kernel
theorem dX3_changes_44 : decode cX3_changes 44 = .ok (.iadd, 1) := by decide +kernel
theorem dX3_changes_45 : decode cX3_changes 45 = .ok (.istore_n 1, 1) := by decide +kernel
theorem dX3_changes_46 : decode cX3_changes 46 = .ok (.iinc 2 1, 3) := by decide +kernel
theorem dX3_changes_49 : decode cX3_changes 49 = .ok (.goto (-45), 3) := by decide +kernel
theorem dX3_changes_52 : decode cX3_changes 52 = .ok (.iload_n 1, 1) := by decide +kernel
theorem dX3_changes_53 : decode cX3_changes 53 = .ok (.ireturn, 1) := by decide +kernel
theorem dX3_manyOf_0 : decode cX3_manyOf 0 = .ok (.iconst 0, 1) := by decide +kernel
theorem dX3_manyOf_1 : decode cX3_manyOf 1 = .ok (.istore_n 2, 1) := by decide +kernel
theorem dX3_manyOf_2 : decode cX3_manyOf 2 = .ok (.iconst 0, 1) := by decide +kernel
theorem dX3_manyOf_3 : decode cX3_manyOf 3 = .ok (.istore_n 3, 1) := by decide +kernel
theorem dX3_manyOf_4 : decode cX3_manyOf 4 = .ok (.iload_n 3, 1) := by decide +kernel
theorem dX3_manyOf_5 : decode cX3_manyOf 5 = .ok (.aload_n 0, 1) := by decide +kernel
theorem dX3_manyOf_6 : decode cX3_manyOf 6 = .ok (.getfield 129, 3) := by decide +kernel
theorem dX3_manyOf_9 : decode cX3_manyOf 9 = .ok (.if_icmp .ge 27, 3) := by decide +kernel
theorem dX3_manyOf_12 : decode cX3_manyOf 12 = .ok (.iload_n 2, 1) := by decide +kernel
theorem dX3_manyOf_13 : decode cX3_manyOf 13 = .ok (.aload_n 0, 1) := by decide +kernel
theorem dX3_manyOf_14 : decode cX3_manyOf 14 = .ok (.getfield 52, 3) := by decide +kernel
theorem dX3_manyOf_17 : decode cX3_manyOf 17 = .ok (.iload_n 3, 1) := by decide +kernel
theorem dX3_manyOf_18 : decode cX3_manyOf 18 = .ok (.iaload, 1) := by decide +kernel
theorem dX3_manyOf_19 : decode cX3_manyOf 19 = .ok (.iload_n 1, 1) := by decide +kernel
theorem dX3_manyOf_20 : decode cX3_manyOf 20 = .ok (.if_icmp .ne 7, 3) := by decide +kernel
theorem dX3_manyOf_23 : decode cX3_manyOf 23 = .ok (.iconst 1, 1) := by decide +kernel
theorem dX3_manyOf_24 : decode cX3_manyOf 24 = .ok (.goto 4, 3) := by decide +kernel
theorem dX3_manyOf_27 : decode cX3_manyOf 27 = .ok (.iconst 0, 1) := by decide +kernel
theorem dX3_manyOf_28 : decode cX3_manyOf 28 = .ok (.iadd, 1) := by decide +kernel
theorem dX3_manyOf_29 : decode cX3_manyOf 29 = .ok (.istore_n 2, 1) := by decide +kernel
theorem dX3_manyOf_30 : decode cX3_manyOf 30 = .ok (.iinc 3 1, 3) := by decide +kernel
theorem dX3_manyOf_33 : decode cX3_manyOf 33 = .ok (.goto (-29), 3) := by decide +kernel
theorem dX3_manyOf_36 : decode cX3_manyOf 36 = .ok (.iload_n 2, 1) := by decide +kernel
theorem dX3_manyOf_37 : decode cX3_manyOf 37 = .ok (.ireturn, 1) := by decide +kernel
theorem dX3_most_0 : decode cX3_most 0 = .ok (.iconst 0, 1) := by decide +kernel
theorem dX3_most_1 : decode cX3_most 1 = .ok (.istore_n 1, 1) := by decide +kernel
theorem dX3_most_2 : decode cX3_most 2 = .ok (.iconst 0, 1) := by decide +kernel
theorem dX3_most_3 : decode cX3_most 3 = .ok (.istore_n 2, 1) := by decide +kernel
theorem dX3_most_4 : decode cX3_most 4 = .ok (.iconst 0, 1) := by decide +kernel
theorem dX3_most_5 : decode cX3_most 5 = .ok (.istore_n 3, 1) := by decide +kernel
theorem dX3_most_6 : decode cX3_most 6 = .ok (.iload_n 3, 1) := by decide +kernel
theorem dX3_most_7 : decode cX3_most 7 = .ok (.aload_n 0, 1) := by decide +kernel
theorem dX3_most_8 : decode cX3_most 8 = .ok (.getfield 129, 3) := by decide +kernel
theorem dX3_most_11 : decode cX3_most 11 = .ok (.if_icmp .ge 37, 3) := by decide +kernel
theorem dX3_most_14 : decode cX3_most 14 = .ok (.aload_n 0, 1) := by decide +kernel
theorem dX3_most_15 : decode cX3_most 15 = .ok (.aload_n 0, 1) := by decide +kernel
theorem dX3_most_16 : decode cX3_most 16 = .ok (.getfield 52, 3) := by decide +kernel
theorem dX3_most_19 : decode cX3_most 19 = .ok (.iload_n 3, 1) := by decide +kernel
theorem dX3_most_20 : decode cX3_most 20 = .ok (.iaload, 1) := by decide +kernel
theorem dX3_most_21 : decode cX3_most 21 = .ok (.invokevirtual 135, 3) := by decide +kernel
theorem dX3_most_24 : decode cX3_most 24 = .ok (.istore 4, 2) := by decide +kernel
theorem dX3_most_26 : decode cX3_most 26 = .ok (.iload 4, 2) := by decide +kernel
theorem dX3_most_28 : decode cX3_most 28 = .ok (.iload_n 2, 1) := by decide +kernel
theorem dX3_most_29 : decode cX3_most 29 = .ok (.if_icmp .le 13, 3) := by decide +kernel
theorem dX3_most_32 : decode cX3_most 32 = .ok (.iload 4, 2) := by decide +kernel
theorem dX3_most_34 : decode cX3_most 34 = .ok (.istore_n 2, 1) := by decide +kernel
theorem dX3_most_35 : decode cX3_most 35 = .ok (.aload_n 0, 1) := by decide +kernel
theorem dX3_most_36 : decode cX3_most 36 = .ok (.getfield 52, 3) := by decide +kernel
theorem dX3_most_39 : decode cX3_most 39 = .ok (.iload_n 3, 1) := by decide +kernel
theorem dX3_most_40 : decode cX3_most 40 = .ok (.iaload, 1) := by decide +kernel
theorem dX3_most_41 : decode cX3_most 41 = .ok (.istore_n 1, 1) := by decide +kernel
theorem dX3_most_42 : decode cX3_most 42 = .ok (.iinc 3 1, 3) := by decide +kernel
theorem dX3_most_45 : decode cX3_most 45 = .ok (.goto (-39), 3) := by decide +kernel
theorem dX3_most_48 : decode cX3_most 48 = .ok (.iload_n 1, 1) := by decide +kernel
theorem dX3_most_49 : decode cX3_most 49 = .ok (.ireturn, 1) := by decide +kernel
theorem dX3_why_0 : decode cX3_why 0 = .ok (.aload_n 0, 1) := by decide +kernel
theorem dX3_why_1 : decode cX3_why 1 = .ok (.getfield 63, 3) := by decide +kernel
theorem dX3_why_4 : decode cX3_why 4 = .ok (.ireturn, 1) := by decide +kernel
theorem dX3_count_0 : decode cX3_count 0 = .ok (.iload_n 1, 1) := by decide +kernel
theorem dX3_count_1 : decode cX3_count 1 = .ok (.tableswitch 60 0 4 #[35, 40, 45, 50, 55], 35) := by decide +kernel
theorem dX3_count_36 : decode cX3_count 36 = .ok (.aload_n 0, 1) := by decide +kernel
theorem dX3_count_37 : decode cX3_count 37 = .ok (.getfield 55, 3) := by decide +kernel
theorem dX3_count_40 : decode cX3_count 40 = .ok (.ireturn, 1) := by decide +kernel
theorem dX3_count_41 : decode cX3_count 41 = .ok (.aload_n 0, 1) := by decide +kernel
theorem dX3_count_42 : decode cX3_count 42 = .ok (.getfield 129, 3) := by decide +kernel
theorem dX3_count_45 : decode cX3_count 45 = .ok (.ireturn, 1) := by decide +kernel
theorem dX3_count_46 : decode cX3_count 46 = .ok (.aload_n 0, 1) := by decide +kernel
theorem dX3_count_47 : decode cX3_count 47 = .ok (.getfield 132, 3) := by decide +kernel
theorem dX3_count_50 : decode cX3_count 50 = .ok (.ireturn, 1) := by decide +kernel
theorem dX3_count_51 : decode cX3_count 51 = .ok (.aload_n 0, 1) := by decide +kernel
theorem dX3_count_52 : decode cX3_count 52 = .ok (.getfield 74, 3) := by decide +kernel
theorem dX3_count_55 : decode cX3_count 55 = .ok (.ireturn, 1) := by decide +kernel
theorem dX3_count_56 : decode cX3_count 56 = .ok (.aload_n 0, 1) := by decide +kernel
theorem dX3_count_57 : decode cX3_count 57 = .ok (.getfield 107, 3) := by decide +kernel
theorem dX3_count_60 : decode cX3_count 60 = .ok (.ireturn, 1) := by decide +kernel
theorem dX3_count_61 : decode cX3_count 61 = .ok (.bipush (-2), 2) := by decide +kernel
theorem dX3_count_63 : decode cX3_count 63 = .ok (.ireturn, 1) := by decide +kernel
