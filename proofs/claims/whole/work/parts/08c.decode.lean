theorem d_M_init_0 : decode c_M_init 0 = .ok (.aload_n 0, 1) := by decide +kernel
theorem d_M_init_1 : decode c_M_init 1 = .ok (.invokespecial 1, 3) := by decide +kernel
theorem d_M_init_4 : decode c_M_init 4 = .ok (.aload_n 0, 1) := by decide +kernel
theorem d_M_init_5 : decode c_M_init 5 = .ok (.bipush 10, 2) := by decide +kernel
theorem d_M_init_7 : decode c_M_init 7 = .ok (.newarray .int, 2) := by decide +kernel
theorem d_M_init_9 : decode c_M_init 9 = .ok (.putfield 7, 3) := by decide +kernel
theorem d_M_init_12 : decode c_M_init 12 = .ok (.aload_n 0, 1) := by decide +kernel
theorem d_M_init_13 : decode c_M_init 13 = .ok (.bipush 10, 2) := by decide +kernel
theorem d_M_init_15 : decode c_M_init 15 = .ok (.newarray .int, 2) := by decide +kernel
theorem d_M_init_17 : decode c_M_init 17 = .ok (.putfield 13, 3) := by decide +kernel
theorem d_M_init_20 : decode c_M_init 20 = .ok (.aload_n 0, 1) := by decide +kernel
theorem d_M_init_21 : decode c_M_init 21 = .ok (.bipush 10, 2) := by decide +kernel
theorem d_M_init_23 : decode c_M_init 23 = .ok (.newarray .int, 2) := by decide +kernel
theorem d_M_init_25 : decode c_M_init 25 = .ok (.putfield 16, 3) := by decide +kernel
theorem d_M_init_28 : decode c_M_init 28 = .ok (.aload_n 0, 1) := by decide +kernel
theorem d_M_init_29 : decode c_M_init 29 = .ok (.bipush 10, 2) := by decide +kernel
theorem d_M_init_31 : decode c_M_init 31 = .ok (.newarray .int, 2) := by decide +kernel
theorem d_M_init_33 : decode c_M_init 33 = .ok (.putfield 19, 3) := by decide +kernel
theorem d_M_init_36 : decode c_M_init 36 = .ok (.aload_n 0, 1) := by decide +kernel
theorem d_M_init_37 : decode c_M_init 37 = .ok (.bipush 10, 2) := by decide +kernel
theorem d_M_init_39 : decode c_M_init 39 = .ok (.newarray .long, 2) := by decide +kernel
theorem d_M_init_41 : decode c_M_init 41 = .ok (.putfield 22, 3) := by decide +kernel
theorem d_M_init_44 : decode c_M_init 44 = .ok (.aload_n 0, 1) := by decide +kernel
theorem d_M_init_45 : decode c_M_init 45 = .ok (.bipush 10, 2) := by decide +kernel
theorem d_M_init_47 : decode c_M_init 47 = .ok (.newarray .long, 2) := by decide +kernel
theorem d_M_init_49 : decode c_M_init 49 = .ok (.putfield 26, 3) := by decide +kernel
theorem d_M_init_52 : decode c_M_init 52 = .ok (.aload_n 0, 1) := by decide +kernel
theorem d_M_init_53 : decode c_M_init 53 = .ok (.bipush 32, 2) := by decide +kernel
theorem d_M_init_55 : decode c_M_init 55 = .ok (.newarray .int, 2) := by decide +kernel
theorem d_M_init_57 : decode c_M_init 57 = .ok (.putfield 29, 3) := by decide +kernel
theorem d_M_init_60 : decode c_M_init 60 = .ok (.aload_n 0, 1) := by decide +kernel
theorem d_M_init_61 : decode c_M_init 61 = .ok (.bipush 32, 2) := by decide +kernel
theorem d_M_init_63 : decode c_M_init 63 = .ok (.newarray .int, 2) := by decide +kernel
theorem d_M_init_65 : decode c_M_init 65 = .ok (.putfield 32, 3) := by decide +kernel
theorem d_M_init_68 : decode c_M_init 68 = .ok (.aload_n 0, 1) := by decide +kernel
theorem d_M_init_69 : decode c_M_init 69 = .ok (.bipush 16, 2) := by decide +kernel
theorem d_M_init_71 : decode c_M_init 71 = .ok (.newarray .boolean, 2) := by decide +kernel
theorem d_M_init_73 : decode c_M_init 73 = .ok (.putfield 35, 3) := by decide +kernel
theorem d_M_init_76 : decode c_M_init 76 = .ok (.aload_n 0, 1) := by decide +kernel
theorem d_M_init_77 : decode c_M_init 77 = .ok (.bipush 40, 2) := by decide +kernel
theorem d_M_init_79 : decode c_M_init 79 = .ok (.newarray .int, 2) := by decide +kernel
theorem d_M_init_81 : decode c_M_init 81 = .ok (.putfield 39, 3) := by decide +kernel
theorem d_M_init_84 : decode c_M_init 84 = .ok (.aload_n 0, 1) := by decide +kernel
theorem d_M_init_85 : decode c_M_init 85 = .ok (.bipush 40, 2) := by decide +kernel
theorem d_M_init_87 : decode c_M_init 87 = .ok (.newarray .int, 2) := by decide +kernel
theorem d_M_init_89 : decode c_M_init 89 = .ok (.putfield 42, 3) := by decide +kernel
theorem d_M_init_92 : decode c_M_init 92 = .ok (.aload_n 0, 1) := by decide +kernel
theorem d_M_init_93 : decode c_M_init 93 = .ok (.bipush 40, 2) := by decide +kernel
theorem d_M_init_95 : decode c_M_init 95 = .ok (.newarray .boolean, 2) := by decide +kernel
theorem d_M_init_97 : decode c_M_init 97 = .ok (.putfield 45, 3) := by decide +kernel
theorem d_M_init_100 : decode c_M_init 100 = .ok (.aload_n 0, 1) := by decide +kernel
theorem d_M_init_101 : decode c_M_init 101 = .ok (.bipush 40, 2) := by decide +kernel
theorem d_M_init_103 : decode c_M_init 103 = .ok (.newarray .int, 2) := by decide +kernel
theorem d_M_init_105 : decode c_M_init 105 = .ok (.putfield 48, 3) := by decide +kernel
theorem d_M_init_108 : decode c_M_init 108 = .ok (.aload_n 0, 1) := by decide +kernel
theorem d_M_init_109 : decode c_M_init 109 = .ok (.sipush 320, 3) := by decide +kernel
theorem d_M_init_112 : decode c_M_init 112 = .ok (.newarray .int, 2) := by decide +kernel
theorem d_M_init_114 : decode c_M_init 114 = .ok (.putfield 51, 3) := by decide +kernel
theorem d_M_init_117 : decode c_M_init 117 = .ok (.aload_n 0, 1) := by decide +kernel
theorem d_M_init_118 : decode c_M_init 118 = .ok (.bipush 40, 2) := by decide +kernel
theorem d_M_init_120 : decode c_M_init 120 = .ok (.newarray .boolean, 2) := by decide +kernel
theorem d_M_init_122 : decode c_M_init 122 = .ok (.putfield 54, 3) := by decide +kernel
theorem d_M_init_125 : decode c_M_init 125 = .ok (.aload_n 0, 1) := by decide +kernel
theorem d_M_init_126 : decode c_M_init 126 = .ok (.sipush 320, 3) := by decide +kernel
theorem d_M_init_129 : decode c_M_init 129 = .ok (.newarray .int, 2) := by decide +kernel
theorem d_M_init_131 : decode c_M_init 131 = .ok (.putfield 57, 3) := by decide +kernel
theorem d_M_init_134 : decode c_M_init 134 = .ok (.aload_n 0, 1) := by decide +kernel
theorem d_M_init_135 : decode c_M_init 135 = .ok (.bipush 40, 2) := by decide +kernel
theorem d_M_init_137 : decode c_M_init 137 = .ok (.newarray .boolean, 2) := by decide +kernel
theorem d_M_init_139 : decode c_M_init 139 = .ok (.putfield 60, 3) := by decide +kernel
theorem d_M_init_142 : decode c_M_init 142 = .ok (.aload_n 0, 1) := by decide +kernel
theorem d_M_init_143 : decode c_M_init 143 = .ok (.sipush 320, 3) := by decide +kernel
theorem d_M_init_146 : decode c_M_init 146 = .ok (.newarray .int, 2) := by decide +kernel
theorem d_M_init_148 : decode c_M_init 148 = .ok (.putfield 63, 3) := by decide +kernel
theorem d_M_init_151 : decode c_M_init 151 = .ok (.aload_n 0, 1) := by decide +kernel
theorem d_M_init_152 : decode c_M_init 152 = .ok (.bipush 40, 2) := by decide +kernel
theorem d_M_init_154 : decode c_M_init 154 = .ok (.newarray .int, 2) := by decide +kernel
theorem d_M_init_156 : decode c_M_init 156 = .ok (.putfield 66, 3) := by decide +kernel
theorem d_M_init_159 : decode c_M_init 159 = .ok (.aload_n 0, 1) := by decide +kernel
theorem d_M_init_160 : decode c_M_init 160 = .ok (.bipush 10, 2) := by decide +kernel
theorem d_M_init_162 : decode c_M_init 162 = .ok (.newarray .int, 2) := by decide +kernel
theorem d_M_init_164 : decode c_M_init 164 = .ok (.putfield 69, 3) := by decide +kernel
theorem d_M_init_167 : decode c_M_init 167 = .ok (.aload_n 0, 1) := by decide +kernel
theorem d_M_init_168 : decode c_M_init 168 = .ok (.bipush 8, 2) := by decide +kernel
theorem d_M_init_170 : decode c_M_init 170 = .ok (.newarray .int, 2) := by decide +kernel
theorem d_M_init_172 : decode c_M_init 172 = .ok (.putfield 72, 3) := by decide +kernel
theorem d_M_init_175 : decode c_M_init 175 = .ok (.aload_n 0, 1) := by decide +kernel
theorem d_M_init_176 : decode c_M_init 176 = .ok (.bipush 8, 2) := by decide +kernel
theorem d_M_init_178 : decode c_M_init 178 = .ok (.newarray .int, 2) := by decide +kernel
theorem d_M_init_180 : decode c_M_init 180 = .ok (.putfield 75, 3) := by decide +kernel
theorem d_M_init_183 : decode c_M_init 183 = .ok (.iconst 0, 1) := by decide +kernel
theorem d_M_init_184 : decode c_M_init 184 = .ok (.istore_n 1, 1) := by decide +kernel
theorem d_M_init_185 : decode c_M_init 185 = .ok (.iload_n 1, 1) := by decide +kernel
theorem d_M_init_186 : decode c_M_init 186 = .ok (.bipush 40, 2) := by decide +kernel
theorem d_M_init_188 : decode c_M_init 188 = .ok (.if_icmp .ge 16, 3) := by decide +kernel
theorem d_M_init_191 : decode c_M_init 191 = .ok (.aload_n 0, 1) := by decide +kernel
theorem d_M_init_192 : decode c_M_init 192 = .ok (.getfield 39, 3) := by decide +kernel
theorem d_M_init_195 : decode c_M_init 195 = .ok (.iload_n 1, 1) := by decide +kernel
theorem d_M_init_196 : decode c_M_init 196 = .ok (.iconst (-1), 1) := by decide +kernel
theorem d_M_init_197 : decode c_M_init 197 = .ok (.iastore, 1) := by decide +kernel
theorem d_M_init_198 : decode c_M_init 198 = .ok (.iinc 1 1, 3) := by decide +kernel
theorem d_M_init_201 : decode c_M_init 201 = .ok (.goto (-16), 3) := by decide +kernel
theorem d_M_init_204 : decode c_M_init 204 = .ok (.return_, 1) := by decide +kernel
theorem d_M_thrown_0 : decode c_M_thrown 0 = .ok (.aload_n 0, 1) := by decide +kernel
theorem d_M_thrown_1 : decode c_M_thrown 1 = .ok (.getfield 78, 3) := by decide +kernel
theorem d_M_thrown_4 : decode c_M_thrown 4 = .ok (.ireturn, 1) := by decide +kernel
theorem d_M_node_0 : decode c_M_node 0 = .ok (.iload_n 1, 1) := by decide +kernel
theorem d_M_node_1 : decode c_M_node 1 = .ok (.ifCond .lt 35, 3) := by decide +kernel
theorem d_M_node_4 : decode c_M_node 4 = .ok (.iload_n 1, 1) := by decide +kernel
theorem d_M_node_5 : decode c_M_node 5 = .ok (.sipush 9999, 3) := by decide +kernel
theorem d_M_node_8 : decode c_M_node 8 = .ok (.if_icmp .gt 28, 3) := by decide +kernel
theorem d_M_node_11 : decode c_M_node 11 = .ok (.aload_n 0, 1) := by decide +kernel
theorem d_M_node_12 : decode c_M_node 12 = .ok (.iload_n 2, 1) := by decide +kernel
theorem d_M_node_13 : decode c_M_node 13 = .ok (.invokevirtual 106, 3) := by decide +kernel
theorem d_M_node_16 : decode c_M_node 16 = .ok (.ifCond .eq 20, 3) := by decide +kernel
theorem d_M_node_19 : decode c_M_node 19 = .ok (.aload_n 0, 1) := by decide +kernel
theorem d_M_node_20 : decode c_M_node 20 = .ok (.iload_n 3, 1) := by decide +kernel
theorem d_M_node_21 : decode c_M_node 21 = .ok (.invokevirtual 106, 3) := by decide +kernel
theorem d_M_node_24 : decode c_M_node 24 = .ok (.ifCond .eq 12, 3) := by decide +kernel
theorem d_M_node_27 : decode c_M_node 27 = .ok (.aload_n 0, 1) := by decide +kernel
theorem d_M_node_28 : decode c_M_node 28 = .ok (.iload 4, 2) := by decide +kernel
theorem d_M_node_30 : decode c_M_node 30 = .ok (.invokevirtual 106, 3) := by decide +kernel
theorem d_M_node_33 : decode c_M_node 33 = .ok (.ifCond .ne 7, 3) := by decide +kernel
theorem d_M_node_36 : decode c_M_node 36 = .ok (.iconst 1, 1) := by decide +kernel
theorem d_M_node_37 : decode c_M_node 37 = .ok (.goto 4, 3) := by decide +kernel
theorem d_M_node_40 : decode c_M_node 40 = .ok (.iconst 0, 1) := by decide +kernel
theorem d_M_node_41 : decode c_M_node 41 = .ok (.istore 7, 2) := by decide +kernel
theorem d_M_node_43 : decode c_M_node 43 = .ok (.iconst 0, 1) := by decide +kernel
theorem d_M_node_44 : decode c_M_node 44 = .ok (.istore 8, 2) := by decide +kernel
theorem d_M_node_46 : decode c_M_node 46 = .ok (.iload 8, 2) := by decide +kernel
theorem d_M_node_48 : decode c_M_node 48 = .ok (.aload_n 0, 1) := by decide +kernel
theorem d_M_node_49 : decode c_M_node 49 = .ok (.getfield 100, 3) := by decide +kernel
theorem d_M_node_52 : decode c_M_node 52 = .ok (.if_icmp .ge 32, 3) := by decide +kernel
theorem d_M_node_55 : decode c_M_node 55 = .ok (.iload 7, 2) := by decide +kernel
theorem d_M_node_57 : decode c_M_node 57 = .ok (.ifCond .ne 14, 3) := by decide +kernel
theorem d_M_node_60 : decode c_M_node 60 = .ok (.aload_n 0, 1) := by decide +kernel
theorem d_M_node_61 : decode c_M_node 61 = .ok (.getfield 7, 3) := by decide +kernel
theorem d_M_node_64 : decode c_M_node 64 = .ok (.iload 8, 2) := by decide +kernel
theorem d_M_node_66 : decode c_M_node 66 = .ok (.iaload, 1) := by decide +kernel
theorem d_M_node_67 : decode c_M_node 67 = .ok (.iload_n 1, 1) := by decide +kernel
theorem d_M_node_68 : decode c_M_node 68 = .ok (.if_icmp .ne 7, 3) := by decide +kernel
theorem d_M_node_71 : decode c_M_node 71 = .ok (.iconst 1, 1) := by decide +kernel
theorem d_M_node_72 : decode c_M_node 72 = .ok (.goto 4, 3) := by decide +kernel
theorem d_M_node_75 : decode c_M_node 75 = .ok (.iconst 0, 1) := by decide +kernel
theorem d_M_node_76 : decode c_M_node 76 = .ok (.istore 7, 2) := by decide +kernel
theorem d_M_node_78 : decode c_M_node 78 = .ok (.iinc 8 1, 3) := by decide +kernel
theorem d_M_node_81 : decode c_M_node 81 = .ok (.goto (-35), 3) := by decide +kernel
theorem d_M_node_84 : decode c_M_node 84 = .ok (.aload_n 0, 1) := by decide +kernel
theorem d_M_node_85 : decode c_M_node 85 = .ok (.iload 7, 2) := by decide +kernel
theorem d_M_node_87 : decode c_M_node 87 = .ok (.ifCond .eq 7, 3) := by decide +kernel
theorem d_M_node_90 : decode c_M_node 90 = .ok (.iconst 1, 1) := by decide +kernel
theorem d_M_node_91 : decode c_M_node 91 = .ok (.goto 17, 3) := by decide +kernel
theorem d_M_node_94 : decode c_M_node 94 = .ok (.aload_n 0, 1) := by decide +kernel
theorem d_M_node_95 : decode c_M_node 95 = .ok (.getfield 100, 3) := by decide +kernel
theorem d_M_node_98 : decode c_M_node 98 = .ok (.bipush 10, 2) := by decide +kernel
theorem d_M_node_100 : decode c_M_node 100 = .ok (.if_icmp .ne 7, 3) := by decide +kernel
theorem d_M_node_103 : decode c_M_node 103 = .ok (.iconst 2, 1) := by decide +kernel
theorem d_M_node_104 : decode c_M_node 104 = .ok (.goto 4, 3) := by decide +kernel
theorem d_M_node_107 : decode c_M_node 107 = .ok (.iconst 0, 1) := by decide +kernel
theorem d_M_node_108 : decode c_M_node 108 = .ok (.putfield 78, 3) := by decide +kernel
theorem d_M_node_111 : decode c_M_node 111 = .ok (.aload_n 0, 1) := by decide +kernel
theorem d_M_node_112 : decode c_M_node 112 = .ok (.getfield 78, 3) := by decide +kernel
theorem d_M_node_115 : decode c_M_node 115 = .ok (.ifCond .eq 5, 3) := by decide +kernel
theorem d_M_node_118 : decode c_M_node 118 = .ok (.iconst 0, 1) := by decide +kernel
theorem d_M_node_119 : decode c_M_node 119 = .ok (.ireturn, 1) := by decide +kernel
theorem d_M_node_120 : decode c_M_node 120 = .ok (.aload_n 0, 1) := by decide +kernel
theorem d_M_node_121 : decode c_M_node 121 = .ok (.getfield 7, 3) := by decide +kernel
theorem d_M_node_124 : decode c_M_node 124 = .ok (.aload_n 0, 1) := by decide +kernel
theorem d_M_node_125 : decode c_M_node 125 = .ok (.getfield 100, 3) := by decide +kernel
theorem d_M_node_128 : decode c_M_node 128 = .ok (.iload_n 1, 1) := by decide +kernel
theorem d_M_node_129 : decode c_M_node 129 = .ok (.iastore, 1) := by decide +kernel
theorem d_M_node_130 : decode c_M_node 130 = .ok (.aload_n 0, 1) := by decide +kernel
theorem d_M_node_131 : decode c_M_node 131 = .ok (.getfield 13, 3) := by decide +kernel
theorem d_M_node_134 : decode c_M_node 134 = .ok (.aload_n 0, 1) := by decide +kernel
theorem d_M_node_135 : decode c_M_node 135 = .ok (.getfield 100, 3) := by decide +kernel
theorem d_M_node_138 : decode c_M_node 138 = .ok (.iload_n 2, 1) := by decide +kernel
theorem d_M_node_139 : decode c_M_node 139 = .ok (.iastore, 1) := by decide +kernel
theorem d_M_node_140 : decode c_M_node 140 = .ok (.aload_n 0, 1) := by decide +kernel
theorem d_M_node_141 : decode c_M_node 141 = .ok (.getfield 16, 3) := by decide +kernel
theorem d_M_node_144 : decode c_M_node 144 = .ok (.aload_n 0, 1) := by decide +kernel
theorem d_M_node_145 : decode c_M_node 145 = .ok (.getfield 100, 3) := by decide +kernel
theorem d_M_node_148 : decode c_M_node 148 = .ok (.iload_n 3, 1) := by decide +kernel
theorem d_M_node_149 : decode c_M_node 149 = .ok (.iastore, 1) := by decide +kernel
theorem d_M_node_150 : decode c_M_node 150 = .ok (.aload_n 0, 1) := by decide +kernel
theorem d_M_node_151 : decode c_M_node 151 = .ok (.getfield 19, 3) := by decide +kernel
theorem d_M_node_154 : decode c_M_node 154 = .ok (.aload_n 0, 1) := by decide +kernel
theorem d_M_node_155 : decode c_M_node 155 = .ok (.getfield 100, 3) := by decide +kernel
theorem d_M_node_158 : decode c_M_node 158 = .ok (.iload 4, 2) := by decide +kernel
theorem d_M_node_160 : decode c_M_node 160 = .ok (.iastore, 1) := by decide +kernel
theorem d_M_node_161 : decode c_M_node 161 = .ok (.aload_n 0, 1) := by decide +kernel
theorem d_M_node_162 : decode c_M_node 162 = .ok (.getfield 22, 3) := by decide +kernel
theorem d_M_node_165 : decode c_M_node 165 = .ok (.aload_n 0, 1) := by decide +kernel
theorem d_M_node_166 : decode c_M_node 166 = .ok (.getfield 100, 3) := by decide +kernel
theorem d_M_node_169 : decode c_M_node 169 = .ok (.lload 5, 2) := by decide +kernel
theorem d_M_node_171 : decode c_M_node 171 = .ok (.lastore, 1) := by decide +kernel
theorem d_M_node_172 : decode c_M_node 172 = .ok (.aload_n 0, 1) := by decide +kernel
theorem d_M_node_173 : decode c_M_node 173 = .ok (.getfield 26, 3) := by decide +kernel
theorem d_M_node_176 : decode c_M_node 176 = .ok (.aload_n 0, 1) := by decide +kernel
theorem d_M_node_177 : decode c_M_node 177 = .ok (.getfield 100, 3) := by decide +kernel
theorem d_M_node_180 : decode c_M_node 180 = .ok (.ldc2_w 110, 3) := by decide +kernel
theorem d_M_node_183 : decode c_M_node 183 = .ok (.lastore, 1) := by decide +kernel
theorem d_M_node_184 : decode c_M_node 184 = .ok (.aload_n 0, 1) := by decide +kernel
theorem d_M_node_185 : decode c_M_node 185 = .ok (.dup, 1) := by decide +kernel
theorem d_M_node_186 : decode c_M_node 186 = .ok (.getfield 100, 3) := by decide +kernel
theorem d_M_node_189 : decode c_M_node 189 = .ok (.iconst 1, 1) := by decide +kernel
theorem d_M_node_190 : decode c_M_node 190 = .ok (.iadd, 1) := by decide +kernel
theorem d_M_node_191 : decode c_M_node 191 = .ok (.putfield 100, 3) := by decide +kernel
theorem d_M_node_194 : decode c_M_node 194 = .ok (.aload_n 0, 1) := by decide +kernel
theorem d_M_node_195 : decode c_M_node 195 = .ok (.invokevirtual 112, 3) := by decide +kernel
theorem d_M_node_198 : decode c_M_node 198 = .ok (.aload_n 0, 1) := by decide +kernel
theorem d_M_node_199 : decode c_M_node 199 = .ok (.getfield 100, 3) := by decide +kernel
theorem d_M_node_202 : decode c_M_node 202 = .ok (.iconst 1, 1) := by decide +kernel
theorem d_M_node_203 : decode c_M_node 203 = .ok (.isub, 1) := by decide +kernel
theorem d_M_node_204 : decode c_M_node 204 = .ok (.ireturn, 1) := by decide +kernel
theorem d_M_byteSized_0 : decode c_M_byteSized 0 = .ok (.iload_n 1, 1) := by decide +kernel
theorem d_M_byteSized_1 : decode c_M_byteSized 1 = .ok (.ifCond .lt 14, 3) := by decide +kernel
theorem d_M_byteSized_4 : decode c_M_byteSized 4 = .ok (.iload_n 1, 1) := by decide +kernel
theorem d_M_byteSized_5 : decode c_M_byteSized 5 = .ok (.sipush 255, 3) := by decide +kernel
theorem d_M_byteSized_8 : decode c_M_byteSized 8 = .ok (.if_icmp .gt 7, 3) := by decide +kernel
theorem d_M_byteSized_11 : decode c_M_byteSized 11 = .ok (.iconst 1, 1) := by decide +kernel
theorem d_M_byteSized_12 : decode c_M_byteSized 12 = .ok (.goto 4, 3) := by decide +kernel
theorem d_M_byteSized_15 : decode c_M_byteSized 15 = .ok (.iconst 0, 1) := by decide +kernel
theorem d_M_byteSized_16 : decode c_M_byteSized 16 = .ok (.ireturn, 1) := by decide +kernel
theorem d_M_findAll_0 : decode c_M_findAll 0 = .ok (.iconst 0, 1) := by decide +kernel
theorem d_M_findAll_1 : decode c_M_findAll 1 = .ok (.istore_n 1, 1) := by decide +kernel
theorem d_M_findAll_2 : decode c_M_findAll 2 = .ok (.iload_n 1, 1) := by decide +kernel
theorem d_M_findAll_3 : decode c_M_findAll 3 = .ok (.aload_n 0, 1) := by decide +kernel
theorem d_M_findAll_4 : decode c_M_findAll 4 = .ok (.getfield 100, 3) := by decide +kernel
theorem d_M_findAll_7 : decode c_M_findAll 7 = .ok (.if_icmp .ge 14, 3) := by decide +kernel
theorem d_M_findAll_10 : decode c_M_findAll 10 = .ok (.aload_n 0, 1) := by decide +kernel
theorem d_M_findAll_11 : decode c_M_findAll 11 = .ok (.iload_n 1, 1) := by decide +kernel
theorem d_M_findAll_12 : decode c_M_findAll 12 = .ok (.invokevirtual 103, 3) := by decide +kernel
theorem d_M_findAll_15 : decode c_M_findAll 15 = .ok (.iinc 1 1, 3) := by decide +kernel
theorem d_M_findAll_18 : decode c_M_findAll 18 = .ok (.goto (-16), 3) := by decide +kernel
theorem d_M_findAll_21 : decode c_M_findAll 21 = .ok (.return_, 1) := by decide +kernel
theorem d_M_find_0 : decode c_M_find 0 = .ok (.iconst (-1), 1) := by decide +kernel
theorem d_M_find_1 : decode c_M_find 1 = .ok (.istore_n 2, 1) := by decide +kernel
theorem d_M_find_2 : decode c_M_find 2 = .ok (.iconst 4, 1) := by decide +kernel
theorem d_M_find_3 : decode c_M_find 3 = .ok (.iload_n 1, 1) := by decide +kernel
theorem d_M_find_4 : decode c_M_find 4 = .ok (.imul, 1) := by decide +kernel
theorem d_M_find_5 : decode c_M_find 5 = .ok (.istore_n 3, 1) := by decide +kernel
theorem d_M_find_6 : decode c_M_find 6 = .ok (.iload_n 3, 1) := by decide +kernel
theorem d_M_find_7 : decode c_M_find 7 = .ok (.iconst 4, 1) := by decide +kernel
theorem d_M_find_8 : decode c_M_find 8 = .ok (.iload_n 1, 1) := by decide +kernel
theorem d_M_find_9 : decode c_M_find 9 = .ok (.imul, 1) := by decide +kernel
theorem d_M_find_10 : decode c_M_find 10 = .ok (.iconst 4, 1) := by decide +kernel
theorem d_M_find_11 : decode c_M_find 11 = .ok (.iadd, 1) := by decide +kernel
theorem d_M_find_12 : decode c_M_find 12 = .ok (.if_icmp .ge 58, 3) := by decide +kernel
theorem d_M_find_15 : decode c_M_find 15 = .ok (.aload_n 0, 1) := by decide +kernel
theorem d_M_find_16 : decode c_M_find 16 = .ok (.getfield 45, 3) := by decide +kernel
theorem d_M_find_19 : decode c_M_find 19 = .ok (.iload_n 3, 1) := by decide +kernel
theorem d_M_find_20 : decode c_M_find 20 = .ok (.baload, 1) := by decide +kernel
theorem d_M_find_21 : decode c_M_find 21 = .ok (.ifCond .eq 43, 3) := by decide +kernel
theorem d_M_find_24 : decode c_M_find 24 = .ok (.iload_n 2, 1) := by decide +kernel
theorem d_M_find_25 : decode c_M_find 25 = .ok (.ifCond .ge 12, 3) := by decide +kernel
theorem d_M_find_28 : decode c_M_find 28 = .ok (.aload_n 0, 1) := by decide +kernel
theorem d_M_find_29 : decode c_M_find 29 = .ok (.iload_n 1, 1) := by decide +kernel
theorem d_M_find_30 : decode c_M_find 30 = .ok (.iconst (-1), 1) := by decide +kernel
theorem d_M_find_31 : decode c_M_find 31 = .ok (.invokevirtual 82, 3) := by decide +kernel
theorem d_M_find_34 : decode c_M_find 34 = .ok (.goto 8, 3) := by decide +kernel
theorem d_M_find_37 : decode c_M_find 37 = .ok (.aload_n 0, 1) := by decide +kernel
theorem d_M_find_38 : decode c_M_find 38 = .ok (.iload_n 2, 1) := by decide +kernel
theorem d_M_find_39 : decode c_M_find 39 = .ok (.invokevirtual 86, 3) := by decide +kernel
theorem d_M_find_42 : decode c_M_find 42 = .ok (.aload_n 0, 1) := by decide +kernel
theorem d_M_find_43 : decode c_M_find 43 = .ok (.invokevirtual 90, 3) := by decide +kernel
theorem d_M_find_46 : decode c_M_find 46 = .ok (.aload_n 0, 1) := by decide +kernel
theorem d_M_find_47 : decode c_M_find 47 = .ok (.iload_n 3, 1) := by decide +kernel
theorem d_M_find_48 : decode c_M_find 48 = .ok (.invokevirtual 86, 3) := by decide +kernel
theorem d_M_find_51 : decode c_M_find 51 = .ok (.aload_n 0, 1) := by decide +kernel
theorem d_M_find_52 : decode c_M_find 52 = .ok (.invokevirtual 93, 3) := by decide +kernel
theorem d_M_find_55 : decode c_M_find 55 = .ok (.ifCond .eq 7, 3) := by decide +kernel
theorem d_M_find_58 : decode c_M_find 58 = .ok (.iload_n 3, 1) := by decide +kernel
theorem d_M_find_59 : decode c_M_find 59 = .ok (.goto 4, 3) := by decide +kernel
theorem d_M_find_62 : decode c_M_find 62 = .ok (.iload_n 2, 1) := by decide +kernel
theorem d_M_find_63 : decode c_M_find 63 = .ok (.istore_n 2, 1) := by decide +kernel
theorem d_M_find_64 : decode c_M_find 64 = .ok (.iinc 3 1, 3) := by decide +kernel
theorem d_M_find_67 : decode c_M_find 67 = .ok (.goto (-61), 3) := by decide +kernel
theorem d_M_find_70 : decode c_M_find 70 = .ok (.aload_n 0, 1) := by decide +kernel
theorem d_M_find_71 : decode c_M_find 71 = .ok (.getfield 69, 3) := by decide +kernel
theorem d_M_find_74 : decode c_M_find 74 = .ok (.iload_n 1, 1) := by decide +kernel
theorem d_M_find_75 : decode c_M_find 75 = .ok (.iload_n 2, 1) := by decide +kernel
theorem d_M_find_76 : decode c_M_find 76 = .ok (.iastore, 1) := by decide +kernel
theorem d_M_find_77 : decode c_M_find 77 = .ok (.iconst 4, 1) := by decide +kernel
theorem d_M_find_78 : decode c_M_find 78 = .ok (.iload_n 1, 1) := by decide +kernel
theorem d_M_find_79 : decode c_M_find 79 = .ok (.imul, 1) := by decide +kernel
theorem d_M_find_80 : decode c_M_find 80 = .ok (.istore_n 3, 1) := by decide +kernel
theorem d_M_find_81 : decode c_M_find 81 = .ok (.iload_n 3, 1) := by decide +kernel
theorem d_M_find_82 : decode c_M_find 82 = .ok (.iconst 4, 1) := by decide +kernel
theorem d_M_find_83 : decode c_M_find 83 = .ok (.iload_n 1, 1) := by decide +kernel
theorem d_M_find_84 : decode c_M_find 84 = .ok (.imul, 1) := by decide +kernel
theorem d_M_find_85 : decode c_M_find 85 = .ok (.iconst 4, 1) := by decide +kernel
theorem d_M_find_86 : decode c_M_find 86 = .ok (.iadd, 1) := by decide +kernel
theorem d_M_find_87 : decode c_M_find 87 = .ok (.if_icmp .ge 72, 3) := by decide +kernel
theorem d_M_find_90 : decode c_M_find 90 = .ok (.aload_n 0, 1) := by decide +kernel
theorem d_M_find_91 : decode c_M_find 91 = .ok (.iload_n 3, 1) := by decide +kernel
theorem d_M_find_92 : decode c_M_find 92 = .ok (.invokevirtual 97, 3) := by decide +kernel
theorem d_M_find_95 : decode c_M_find 95 = .ok (.aload_n 0, 1) := by decide +kernel
theorem d_M_find_96 : decode c_M_find 96 = .ok (.invokevirtual 90, 3) := by decide +kernel
theorem d_M_find_99 : decode c_M_find 99 = .ok (.aload_n 0, 1) := by decide +kernel
theorem d_M_find_100 : decode c_M_find 100 = .ok (.iload_n 3, 1) := by decide +kernel
theorem d_M_find_101 : decode c_M_find 101 = .ok (.invokevirtual 86, 3) := by decide +kernel
theorem d_M_find_104 : decode c_M_find 104 = .ok (.aload_n 0, 1) := by decide +kernel
theorem d_M_find_105 : decode c_M_find 105 = .ok (.getfield 42, 3) := by decide +kernel
theorem d_M_find_108 : decode c_M_find 108 = .ok (.iload_n 3, 1) := by decide +kernel
theorem d_M_find_109 : decode c_M_find 109 = .ok (.aload_n 0, 1) := by decide +kernel
theorem d_M_find_110 : decode c_M_find 110 = .ok (.getfield 39, 3) := by decide +kernel
theorem d_M_find_113 : decode c_M_find 113 = .ok (.iload_n 3, 1) := by decide +kernel
theorem d_M_find_114 : decode c_M_find 114 = .ok (.iaload, 1) := by decide +kernel
theorem d_M_find_115 : decode c_M_find 115 = .ok (.ifCond .ge 7, 3) := by decide +kernel
theorem d_M_find_118 : decode c_M_find 118 = .ok (.iconst 0, 1) := by decide +kernel
theorem d_M_find_119 : decode c_M_find 119 = .ok (.goto 33, 3) := by decide +kernel
theorem d_M_find_122 : decode c_M_find 122 = .ok (.iload_n 3, 1) := by decide +kernel
theorem d_M_find_123 : decode c_M_find 123 = .ok (.iload_n 2, 1) := by decide +kernel
theorem d_M_find_124 : decode c_M_find 124 = .ok (.if_icmp .ne 7, 3) := by decide +kernel
theorem d_M_find_127 : decode c_M_find 127 = .ok (.iconst 2, 1) := by decide +kernel
theorem d_M_find_128 : decode c_M_find 128 = .ok (.goto 24, 3) := by decide +kernel
theorem d_M_find_131 : decode c_M_find 131 = .ok (.aload_n 0, 1) := by decide +kernel
theorem d_M_find_132 : decode c_M_find 132 = .ok (.getfield 45, 3) := by decide +kernel
theorem d_M_find_135 : decode c_M_find 135 = .ok (.iload_n 3, 1) := by decide +kernel
theorem d_M_find_136 : decode c_M_find 136 = .ok (.baload, 1) := by decide +kernel
theorem d_M_find_137 : decode c_M_find 137 = .ok (.ifCond .eq 14, 3) := by decide +kernel
theorem d_M_find_140 : decode c_M_find 140 = .ok (.aload_n 0, 1) := by decide +kernel
theorem d_M_find_141 : decode c_M_find 141 = .ok (.invokevirtual 93, 3) := by decide +kernel
theorem d_M_find_144 : decode c_M_find 144 = .ok (.ifCond .eq 7, 3) := by decide +kernel
theorem d_M_find_147 : decode c_M_find 147 = .ok (.iconst 3, 1) := by decide +kernel
theorem d_M_find_148 : decode c_M_find 148 = .ok (.goto 4, 3) := by decide +kernel
theorem d_M_find_151 : decode c_M_find 151 = .ok (.iconst 1, 1) := by decide +kernel
theorem d_M_find_152 : decode c_M_find 152 = .ok (.iastore, 1) := by decide +kernel
theorem d_M_find_153 : decode c_M_find 153 = .ok (.iinc 3 1, 3) := by decide +kernel
theorem d_M_find_156 : decode c_M_find 156 = .ok (.goto (-75), 3) := by decide +kernel
theorem d_M_find_159 : decode c_M_find 159 = .ok (.return_, 1) := by decide +kernel
theorem d_M_ownOne_0 : decode c_M_ownOne 0 = .ok (.aload_n 0, 1) := by decide +kernel
theorem d_M_ownOne_1 : decode c_M_ownOne 1 = .ok (.getfield 72, 3) := by decide +kernel
theorem d_M_ownOne_4 : decode c_M_ownOne 4 = .ok (.iconst 0, 1) := by decide +kernel
theorem d_M_ownOne_5 : decode c_M_ownOne 5 = .ok (.aload_n 0, 1) := by decide +kernel
theorem d_M_ownOne_6 : decode c_M_ownOne 6 = .ok (.getfield 13, 3) := by decide +kernel
theorem d_M_ownOne_9 : decode c_M_ownOne 9 = .ok (.iload_n 1, 1) := by decide +kernel
theorem d_M_ownOne_10 : decode c_M_ownOne 10 = .ok (.iaload, 1) := by decide +kernel
theorem d_M_ownOne_11 : decode c_M_ownOne 11 = .ok (.iastore, 1) := by decide +kernel
theorem d_M_ownOne_12 : decode c_M_ownOne 12 = .ok (.aload_n 0, 1) := by decide +kernel
theorem d_M_ownOne_13 : decode c_M_ownOne 13 = .ok (.getfield 72, 3) := by decide +kernel
theorem d_M_ownOne_16 : decode c_M_ownOne 16 = .ok (.iconst 1, 1) := by decide +kernel
theorem d_M_ownOne_17 : decode c_M_ownOne 17 = .ok (.aload_n 0, 1) := by decide +kernel
theorem d_M_ownOne_18 : decode c_M_ownOne 18 = .ok (.getfield 16, 3) := by decide +kernel
theorem d_M_ownOne_21 : decode c_M_ownOne 21 = .ok (.iload_n 1, 1) := by decide +kernel
theorem d_M_ownOne_22 : decode c_M_ownOne 22 = .ok (.iaload, 1) := by decide +kernel
theorem d_M_ownOne_23 : decode c_M_ownOne 23 = .ok (.iastore, 1) := by decide +kernel
theorem d_M_ownOne_24 : decode c_M_ownOne 24 = .ok (.aload_n 0, 1) := by decide +kernel
theorem d_M_ownOne_25 : decode c_M_ownOne 25 = .ok (.getfield 72, 3) := by decide +kernel
theorem d_M_ownOne_28 : decode c_M_ownOne 28 = .ok (.iconst 2, 1) := by decide +kernel
theorem d_M_ownOne_29 : decode c_M_ownOne 29 = .ok (.aload_n 0, 1) := by decide +kernel
theorem d_M_ownOne_30 : decode c_M_ownOne 30 = .ok (.getfield 19, 3) := by decide +kernel
theorem d_M_ownOne_33 : decode c_M_ownOne 33 = .ok (.iload_n 1, 1) := by decide +kernel
theorem d_M_ownOne_34 : decode c_M_ownOne 34 = .ok (.iaload, 1) := by decide +kernel
theorem d_M_ownOne_35 : decode c_M_ownOne 35 = .ok (.iastore, 1) := by decide +kernel
theorem d_M_ownOne_36 : decode c_M_ownOne 36 = .ok (.aload_n 0, 1) := by decide +kernel
theorem d_M_ownOne_37 : decode c_M_ownOne 37 = .ok (.getfield 72, 3) := by decide +kernel
theorem d_M_ownOne_40 : decode c_M_ownOne 40 = .ok (.iconst 3, 1) := by decide +kernel
theorem d_M_ownOne_41 : decode c_M_ownOne 41 = .ok (.aload_n 0, 1) := by decide +kernel
theorem d_M_ownOne_42 : decode c_M_ownOne 42 = .ok (.getfield 7, 3) := by decide +kernel
theorem d_M_ownOne_45 : decode c_M_ownOne 45 = .ok (.iload_n 1, 1) := by decide +kernel
theorem d_M_ownOne_46 : decode c_M_ownOne 46 = .ok (.iaload, 1) := by decide +kernel
theorem d_M_ownOne_47 : decode c_M_ownOne 47 = .ok (.iastore, 1) := by decide +kernel
theorem d_M_ownOne_48 : decode c_M_ownOne 48 = .ok (.aload_n 0, 1) := by decide +kernel
theorem d_M_ownOne_49 : decode c_M_ownOne 49 = .ok (.getfield 72, 3) := by decide +kernel
theorem d_M_ownOne_52 : decode c_M_ownOne 52 = .ok (.iconst 4, 1) := by decide +kernel
theorem d_M_ownOne_53 : decode c_M_ownOne 53 = .ok (.iconst 0, 1) := by decide +kernel
theorem d_M_ownOne_54 : decode c_M_ownOne 54 = .ok (.iastore, 1) := by decide +kernel
theorem d_M_ownOne_55 : decode c_M_ownOne 55 = .ok (.aload_n 0, 1) := by decide +kernel
theorem d_M_ownOne_56 : decode c_M_ownOne 56 = .ok (.getfield 72, 3) := by decide +kernel
theorem d_M_ownOne_59 : decode c_M_ownOne 59 = .ok (.iconst 5, 1) := by decide +kernel
theorem d_M_ownOne_60 : decode c_M_ownOne 60 = .ok (.aload_n 0, 1) := by decide +kernel
theorem d_M_ownOne_61 : decode c_M_ownOne 61 = .ok (.getfield 7, 3) := by decide +kernel
theorem d_M_ownOne_64 : decode c_M_ownOne 64 = .ok (.iload_n 1, 1) := by decide +kernel
theorem d_M_ownOne_65 : decode c_M_ownOne 65 = .ok (.iaload, 1) := by decide +kernel
theorem d_M_ownOne_66 : decode c_M_ownOne 66 = .ok (.iastore, 1) := by decide +kernel
theorem d_M_ownOne_67 : decode c_M_ownOne 67 = .ok (.aload_n 0, 1) := by decide +kernel
theorem d_M_ownOne_68 : decode c_M_ownOne 68 = .ok (.getfield 72, 3) := by decide +kernel
theorem d_M_ownOne_71 : decode c_M_ownOne 71 = .ok (.bipush 6, 2) := by decide +kernel
theorem d_M_ownOne_73 : decode c_M_ownOne 73 = .ok (.iload_n 2, 1) := by decide +kernel
theorem d_M_ownOne_74 : decode c_M_ownOne 74 = .ok (.iastore, 1) := by decide +kernel
theorem d_M_ownOne_75 : decode c_M_ownOne 75 = .ok (.aload_n 0, 1) := by decide +kernel
theorem d_M_ownOne_76 : decode c_M_ownOne 76 = .ok (.getfield 72, 3) := by decide +kernel
theorem d_M_ownOne_79 : decode c_M_ownOne 79 = .ok (.bipush 7, 2) := by decide +kernel
theorem d_M_ownOne_81 : decode c_M_ownOne 81 = .ok (.iload_n 2, 1) := by decide +kernel
theorem d_M_ownOne_82 : decode c_M_ownOne 82 = .ok (.iastore, 1) := by decide +kernel
theorem d_M_ownOne_83 : decode c_M_ownOne 83 = .ok (.return_, 1) := by decide +kernel
theorem d_M_keptOne_0 : decode c_M_keptOne 0 = .ok (.iconst 0, 1) := by decide +kernel
theorem d_M_keptOne_1 : decode c_M_keptOne 1 = .ok (.istore_n 2, 1) := by decide +kernel
theorem d_M_keptOne_2 : decode c_M_keptOne 2 = .ok (.iload_n 2, 1) := by decide +kernel
theorem d_M_keptOne_3 : decode c_M_keptOne 3 = .ok (.bipush 8, 2) := by decide +kernel
theorem d_M_keptOne_5 : decode c_M_keptOne 5 = .ok (.if_icmp .ge 26, 3) := by decide +kernel
theorem d_M_keptOne_8 : decode c_M_keptOne 8 = .ok (.aload_n 0, 1) := by decide +kernel
theorem d_M_keptOne_9 : decode c_M_keptOne 9 = .ok (.getfield 72, 3) := by decide +kernel
theorem d_M_keptOne_12 : decode c_M_keptOne 12 = .ok (.iload_n 2, 1) := by decide +kernel
theorem d_M_keptOne_13 : decode c_M_keptOne 13 = .ok (.aload_n 0, 1) := by decide +kernel
theorem d_M_keptOne_14 : decode c_M_keptOne 14 = .ok (.getfield 51, 3) := by decide +kernel
theorem d_M_keptOne_17 : decode c_M_keptOne 17 = .ok (.bipush 8, 2) := by decide +kernel
theorem d_M_keptOne_19 : decode c_M_keptOne 19 = .ok (.iload_n 1, 1) := by decide +kernel
theorem d_M_keptOne_20 : decode c_M_keptOne 20 = .ok (.imul, 1) := by decide +kernel
theorem d_M_keptOne_21 : decode c_M_keptOne 21 = .ok (.iload_n 2, 1) := by decide +kernel
theorem d_M_keptOne_22 : decode c_M_keptOne 22 = .ok (.iadd, 1) := by decide +kernel
theorem d_M_keptOne_23 : decode c_M_keptOne 23 = .ok (.iaload, 1) := by decide +kernel
theorem d_M_keptOne_24 : decode c_M_keptOne 24 = .ok (.iastore, 1) := by decide +kernel
theorem d_M_keptOne_25 : decode c_M_keptOne 25 = .ok (.iinc 2 1, 3) := by decide +kernel
theorem d_M_keptOne_28 : decode c_M_keptOne 28 = .ok (.goto (-26), 3) := by decide +kernel
theorem d_M_keptOne_31 : decode c_M_keptOne 31 = .ok (.return_, 1) := by decide +kernel
theorem d_M_turnRound_0 : decode c_M_turnRound 0 = .ok (.iconst 0, 1) := by decide +kernel
theorem d_M_turnRound_1 : decode c_M_turnRound 1 = .ok (.istore_n 1, 1) := by decide +kernel
theorem d_M_turnRound_2 : decode c_M_turnRound 2 = .ok (.iload_n 1, 1) := by decide +kernel
theorem d_M_turnRound_3 : decode c_M_turnRound 3 = .ok (.bipush 8, 2) := by decide +kernel
theorem d_M_turnRound_5 : decode c_M_turnRound 5 = .ok (.if_icmp .ge 21, 3) := by decide +kernel
theorem d_M_turnRound_8 : decode c_M_turnRound 8 = .ok (.aload_n 0, 1) := by decide +kernel
theorem d_M_turnRound_9 : decode c_M_turnRound 9 = .ok (.getfield 75, 3) := by decide +kernel
theorem d_M_turnRound_12 : decode c_M_turnRound 12 = .ok (.iload_n 1, 1) := by decide +kernel
theorem d_M_turnRound_13 : decode c_M_turnRound 13 = .ok (.aload_n 0, 1) := by decide +kernel
theorem d_M_turnRound_14 : decode c_M_turnRound 14 = .ok (.getfield 72, 3) := by decide +kernel
theorem d_M_turnRound_17 : decode c_M_turnRound 17 = .ok (.iload_n 1, 1) := by decide +kernel
theorem d_M_turnRound_18 : decode c_M_turnRound 18 = .ok (.iaload, 1) := by decide +kernel
theorem d_M_turnRound_19 : decode c_M_turnRound 19 = .ok (.iastore, 1) := by decide +kernel
theorem d_M_turnRound_20 : decode c_M_turnRound 20 = .ok (.iinc 1 1, 3) := by decide +kernel
theorem d_M_turnRound_23 : decode c_M_turnRound 23 = .ok (.goto (-21), 3) := by decide +kernel
theorem d_M_turnRound_26 : decode c_M_turnRound 26 = .ok (.return_, 1) := by decide +kernel
theorem d_M_better_0 : decode c_M_better 0 = .ok (.iconst 0, 1) := by decide +kernel
theorem d_M_better_1 : decode c_M_better 1 = .ok (.istore_n 1, 1) := by decide +kernel
theorem d_M_better_2 : decode c_M_better 2 = .ok (.iload_n 1, 1) := by decide +kernel
theorem d_M_better_3 : decode c_M_better 3 = .ok (.bipush 8, 2) := by decide +kernel
theorem d_M_better_5 : decode c_M_better 5 = .ok (.if_icmp .ge 45, 3) := by decide +kernel
theorem d_M_better_8 : decode c_M_better 8 = .ok (.aload_n 0, 1) := by decide +kernel
theorem d_M_better_9 : decode c_M_better 9 = .ok (.getfield 72, 3) := by decide +kernel
theorem d_M_better_12 : decode c_M_better 12 = .ok (.iload_n 1, 1) := by decide +kernel
theorem d_M_better_13 : decode c_M_better 13 = .ok (.iaload, 1) := by decide +kernel
theorem d_M_better_14 : decode c_M_better 14 = .ok (.aload_n 0, 1) := by decide +kernel
theorem d_M_better_15 : decode c_M_better 15 = .ok (.getfield 75, 3) := by decide +kernel
theorem d_M_better_18 : decode c_M_better 18 = .ok (.iload_n 1, 1) := by decide +kernel
theorem d_M_better_19 : decode c_M_better 19 = .ok (.iaload, 1) := by decide +kernel
theorem d_M_better_20 : decode c_M_better 20 = .ok (.if_icmp .eq 24, 3) := by decide +kernel
theorem d_M_better_23 : decode c_M_better 23 = .ok (.aload_n 0, 1) := by decide +kernel
theorem d_M_better_24 : decode c_M_better 24 = .ok (.getfield 72, 3) := by decide +kernel
theorem d_M_better_27 : decode c_M_better 27 = .ok (.iload_n 1, 1) := by decide +kernel
theorem d_M_better_28 : decode c_M_better 28 = .ok (.iaload, 1) := by decide +kernel
theorem d_M_better_29 : decode c_M_better 29 = .ok (.aload_n 0, 1) := by decide +kernel
theorem d_M_better_30 : decode c_M_better 30 = .ok (.getfield 75, 3) := by decide +kernel
theorem d_M_better_33 : decode c_M_better 33 = .ok (.iload_n 1, 1) := by decide +kernel
theorem d_M_better_34 : decode c_M_better 34 = .ok (.iaload, 1) := by decide +kernel
theorem d_M_better_35 : decode c_M_better 35 = .ok (.if_icmp .ge 7, 3) := by decide +kernel
theorem d_M_better_38 : decode c_M_better 38 = .ok (.iconst 1, 1) := by decide +kernel
theorem d_M_better_39 : decode c_M_better 39 = .ok (.goto 4, 3) := by decide +kernel
theorem d_M_better_42 : decode c_M_better 42 = .ok (.iconst 0, 1) := by decide +kernel
theorem d_M_better_43 : decode c_M_better 43 = .ok (.ireturn, 1) := by decide +kernel
theorem d_M_better_44 : decode c_M_better 44 = .ok (.iinc 1 1, 3) := by decide +kernel
theorem d_M_better_47 : decode c_M_better 47 = .ok (.goto (-45), 3) := by decide +kernel
theorem d_M_better_50 : decode c_M_better 50 = .ok (.iconst 0, 1) := by decide +kernel
theorem d_M_better_51 : decode c_M_better 51 = .ok (.ireturn, 1) := by decide +kernel
theorem d_M_toldOne_0 : decode c_M_toldOne 0 = .ok (.iload_n 1, 1) := by decide +kernel
theorem d_M_toldOne_1 : decode c_M_toldOne 1 = .ok (.iconst 4, 1) := by decide +kernel
theorem d_M_toldOne_2 : decode c_M_toldOne 2 = .ok (.idiv, 1) := by decide +kernel
theorem d_M_toldOne_3 : decode c_M_toldOne 3 = .ok (.istore_n 2, 1) := by decide +kernel
theorem d_M_toldOne_4 : decode c_M_toldOne 4 = .ok (.aload_n 0, 1) := by decide +kernel
theorem d_M_toldOne_5 : decode c_M_toldOne 5 = .ok (.getfield 69, 3) := by decide +kernel
theorem d_M_toldOne_8 : decode c_M_toldOne 8 = .ok (.iload_n 2, 1) := by decide +kernel
theorem d_M_toldOne_9 : decode c_M_toldOne 9 = .ok (.iaload, 1) := by decide +kernel
theorem d_M_toldOne_10 : decode c_M_toldOne 10 = .ok (.istore_n 3, 1) := by decide +kernel
theorem d_M_toldOne_11 : decode c_M_toldOne 11 = .ok (.iload_n 3, 1) := by decide +kernel
theorem d_M_toldOne_12 : decode c_M_toldOne 12 = .ok (.ifCond .ge 14, 3) := by decide +kernel
theorem d_M_toldOne_15 : decode c_M_toldOne 15 = .ok (.aload_n 0, 1) := by decide +kernel
theorem d_M_toldOne_16 : decode c_M_toldOne 16 = .ok (.iload_n 2, 1) := by decide +kernel
theorem d_M_toldOne_17 : decode c_M_toldOne 17 = .ok (.iload_n 1, 1) := by decide +kernel
theorem d_M_toldOne_18 : decode c_M_toldOne 18 = .ok (.iconst 4, 1) := by decide +kernel
theorem d_M_toldOne_19 : decode c_M_toldOne 19 = .ok (.irem, 1) := by decide +kernel
theorem d_M_toldOne_20 : decode c_M_toldOne 20 = .ok (.invokevirtual 82, 3) := by decide +kernel
theorem d_M_toldOne_23 : decode c_M_toldOne 23 = .ok (.goto 54, 3) := by decide +kernel
theorem d_M_toldOne_26 : decode c_M_toldOne 26 = .ok (.aload_n 0, 1) := by decide +kernel
theorem d_M_toldOne_27 : decode c_M_toldOne 27 = .ok (.iload_n 3, 1) := by decide +kernel
theorem d_M_toldOne_28 : decode c_M_toldOne 28 = .ok (.invokevirtual 86, 3) := by decide +kernel
theorem d_M_toldOne_31 : decode c_M_toldOne 31 = .ok (.aload_n 0, 1) := by decide +kernel
theorem d_M_toldOne_32 : decode c_M_toldOne 32 = .ok (.getfield 72, 3) := by decide +kernel
theorem d_M_toldOne_35 : decode c_M_toldOne 35 = .ok (.iconst 4, 1) := by decide +kernel
theorem d_M_toldOne_36 : decode c_M_toldOne 36 = .ok (.aload_n 0, 1) := by decide +kernel
theorem d_M_toldOne_37 : decode c_M_toldOne 37 = .ok (.getfield 72, 3) := by decide +kernel
theorem d_M_toldOne_40 : decode c_M_toldOne 40 = .ok (.iconst 4, 1) := by decide +kernel
theorem d_M_toldOne_41 : decode c_M_toldOne 41 = .ok (.iaload, 1) := by decide +kernel
theorem d_M_toldOne_42 : decode c_M_toldOne 42 = .ok (.iconst 1, 1) := by decide +kernel
theorem d_M_toldOne_43 : decode c_M_toldOne 43 = .ok (.iadd, 1) := by decide +kernel
theorem d_M_toldOne_44 : decode c_M_toldOne 44 = .ok (.iastore, 1) := by decide +kernel
theorem d_M_toldOne_45 : decode c_M_toldOne 45 = .ok (.aload_n 0, 1) := by decide +kernel
theorem d_M_toldOne_46 : decode c_M_toldOne 46 = .ok (.getfield 72, 3) := by decide +kernel
theorem d_M_toldOne_49 : decode c_M_toldOne 49 = .ok (.iconst 5, 1) := by decide +kernel
theorem d_M_toldOne_50 : decode c_M_toldOne 50 = .ok (.aload_n 0, 1) := by decide +kernel
theorem d_M_toldOne_51 : decode c_M_toldOne 51 = .ok (.getfield 7, 3) := by decide +kernel
theorem d_M_toldOne_54 : decode c_M_toldOne 54 = .ok (.iload_n 2, 1) := by decide +kernel
theorem d_M_toldOne_55 : decode c_M_toldOne 55 = .ok (.iaload, 1) := by decide +kernel
theorem d_M_toldOne_56 : decode c_M_toldOne 56 = .ok (.iastore, 1) := by decide +kernel
theorem d_M_toldOne_57 : decode c_M_toldOne 57 = .ok (.aload_n 0, 1) := by decide +kernel
theorem d_M_toldOne_58 : decode c_M_toldOne 58 = .ok (.getfield 72, 3) := by decide +kernel
theorem d_M_toldOne_61 : decode c_M_toldOne 61 = .ok (.bipush 6, 2) := by decide +kernel
theorem d_M_toldOne_63 : decode c_M_toldOne 63 = .ok (.iload_n 1, 1) := by decide +kernel
theorem d_M_toldOne_64 : decode c_M_toldOne 64 = .ok (.iconst 4, 1) := by decide +kernel
theorem d_M_toldOne_65 : decode c_M_toldOne 65 = .ok (.irem, 1) := by decide +kernel
theorem d_M_toldOne_66 : decode c_M_toldOne 66 = .ok (.iastore, 1) := by decide +kernel
theorem d_M_toldOne_67 : decode c_M_toldOne 67 = .ok (.aload_n 0, 1) := by decide +kernel
theorem d_M_toldOne_68 : decode c_M_toldOne 68 = .ok (.getfield 72, 3) := by decide +kernel
theorem d_M_toldOne_71 : decode c_M_toldOne 71 = .ok (.bipush 7, 2) := by decide +kernel
theorem d_M_toldOne_73 : decode c_M_toldOne 73 = .ok (.iload_n 1, 1) := by decide +kernel
theorem d_M_toldOne_74 : decode c_M_toldOne 74 = .ok (.iconst 4, 1) := by decide +kernel
theorem d_M_toldOne_75 : decode c_M_toldOne 75 = .ok (.irem, 1) := by decide +kernel
theorem d_M_toldOne_76 : decode c_M_toldOne 76 = .ok (.iastore, 1) := by decide +kernel
theorem d_M_toldOne_77 : decode c_M_toldOne 77 = .ok (.return_, 1) := by decide +kernel
theorem d_M_link_0 : decode c_M_link 0 = .ok (.aload_n 0, 1) := by decide +kernel
theorem d_M_link_1 : decode c_M_link 1 = .ok (.iload_n 1, 1) := by decide +kernel
theorem d_M_link_2 : decode c_M_link 2 = .ok (.iload_n 2, 1) := by decide +kernel
theorem d_M_link_3 : decode c_M_link 3 = .ok (.invokevirtual 119, 3) := by decide +kernel
theorem d_M_link_6 : decode c_M_link 6 = .ok (.ifCond .ne 36, 3) := by decide +kernel
theorem d_M_link_9 : decode c_M_link 9 = .ok (.aload_n 0, 1) := by decide +kernel
theorem d_M_link_10 : decode c_M_link 10 = .ok (.iload_n 3, 1) := by decide +kernel
theorem d_M_link_11 : decode c_M_link 11 = .ok (.iload 4, 2) := by decide +kernel
theorem d_M_link_13 : decode c_M_link 13 = .ok (.invokevirtual 119, 3) := by decide +kernel
theorem d_M_link_16 : decode c_M_link 16 = .ok (.ifCond .ne 26, 3) := by decide +kernel
theorem d_M_link_19 : decode c_M_link 19 = .ok (.iload_n 1, 1) := by decide +kernel
theorem d_M_link_20 : decode c_M_link 20 = .ok (.iload_n 3, 1) := by decide +kernel
theorem d_M_link_21 : decode c_M_link 21 = .ok (.if_icmp .eq 21, 3) := by decide +kernel
theorem d_M_link_24 : decode c_M_link 24 = .ok (.aload_n 0, 1) := by decide +kernel
theorem d_M_link_25 : decode c_M_link 25 = .ok (.iload 5, 2) := by decide +kernel
theorem d_M_link_27 : decode c_M_link 27 = .ok (.invokevirtual 123, 3) := by decide +kernel
theorem d_M_link_30 : decode c_M_link 30 = .ok (.ifCond .ne 12, 3) := by decide +kernel
theorem d_M_link_33 : decode c_M_link 33 = .ok (.aload_n 0, 1) := by decide +kernel
theorem d_M_link_34 : decode c_M_link 34 = .ok (.iload 6, 2) := by decide +kernel
theorem d_M_link_36 : decode c_M_link 36 = .ok (.invokevirtual 123, 3) := by decide +kernel
theorem d_M_link_39 : decode c_M_link 39 = .ok (.ifCond .eq 7, 3) := by decide +kernel
theorem d_M_link_42 : decode c_M_link 42 = .ok (.iconst 1, 1) := by decide +kernel
theorem d_M_link_43 : decode c_M_link 43 = .ok (.goto 4, 3) := by decide +kernel
theorem d_M_link_46 : decode c_M_link 46 = .ok (.iconst 0, 1) := by decide +kernel
theorem d_M_link_47 : decode c_M_link 47 = .ok (.istore 7, 2) := by decide +kernel
theorem d_M_link_49 : decode c_M_link 49 = .ok (.aload_n 0, 1) := by decide +kernel
theorem d_M_link_50 : decode c_M_link 50 = .ok (.iload 7, 2) := by decide +kernel
theorem d_M_link_52 : decode c_M_link 52 = .ok (.ifCond .eq 7, 3) := by decide +kernel
theorem d_M_link_55 : decode c_M_link 55 = .ok (.iconst 1, 1) := by decide +kernel
theorem d_M_link_56 : decode c_M_link 56 = .ok (.goto 44, 3) := by decide +kernel
theorem d_M_link_59 : decode c_M_link 59 = .ok (.aload_n 0, 1) := by decide +kernel
theorem d_M_link_60 : decode c_M_link 60 = .ok (.getfield 126, 3) := by decide +kernel
theorem d_M_link_63 : decode c_M_link 63 = .ok (.bipush 16, 2) := by decide +kernel
theorem d_M_link_65 : decode c_M_link 65 = .ok (.if_icmp .eq 30, 3) := by decide +kernel
theorem d_M_link_68 : decode c_M_link 68 = .ok (.aload_n 0, 1) := by decide +kernel
theorem d_M_link_69 : decode c_M_link 69 = .ok (.getfield 39, 3) := by decide +kernel
theorem d_M_link_72 : decode c_M_link 72 = .ok (.iconst 4, 1) := by decide +kernel
theorem d_M_link_73 : decode c_M_link 73 = .ok (.iload_n 1, 1) := by decide +kernel
theorem d_M_link_74 : decode c_M_link 74 = .ok (.imul, 1) := by decide +kernel
theorem d_M_link_75 : decode c_M_link 75 = .ok (.iload_n 2, 1) := by decide +kernel
theorem d_M_link_76 : decode c_M_link 76 = .ok (.iadd, 1) := by decide +kernel
theorem d_M_link_77 : decode c_M_link 77 = .ok (.iaload, 1) := by decide +kernel
theorem d_M_link_78 : decode c_M_link 78 = .ok (.ifCond .ge 17, 3) := by decide +kernel
theorem d_M_link_81 : decode c_M_link 81 = .ok (.aload_n 0, 1) := by decide +kernel
theorem d_M_link_82 : decode c_M_link 82 = .ok (.getfield 39, 3) := by decide +kernel
theorem d_M_link_85 : decode c_M_link 85 = .ok (.iconst 4, 1) := by decide +kernel
theorem d_M_link_86 : decode c_M_link 86 = .ok (.iload_n 3, 1) := by decide +kernel
theorem d_M_link_87 : decode c_M_link 87 = .ok (.imul, 1) := by decide +kernel
theorem d_M_link_88 : decode c_M_link 88 = .ok (.iload 4, 2) := by decide +kernel
theorem d_M_link_90 : decode c_M_link 90 = .ok (.iadd, 1) := by decide +kernel
theorem d_M_link_91 : decode c_M_link 91 = .ok (.iaload, 1) := by decide +kernel
theorem d_M_link_92 : decode c_M_link 92 = .ok (.ifCond .lt 7, 3) := by decide +kernel
theorem d_M_link_95 : decode c_M_link 95 = .ok (.iconst 2, 1) := by decide +kernel
theorem d_M_link_96 : decode c_M_link 96 = .ok (.goto 4, 3) := by decide +kernel
theorem d_M_link_99 : decode c_M_link 99 = .ok (.iconst 0, 1) := by decide +kernel
theorem d_M_link_100 : decode c_M_link 100 = .ok (.putfield 78, 3) := by decide +kernel
theorem d_M_link_103 : decode c_M_link 103 = .ok (.aload_n 0, 1) := by decide +kernel
theorem d_M_link_104 : decode c_M_link 104 = .ok (.getfield 78, 3) := by decide +kernel
theorem d_M_link_107 : decode c_M_link 107 = .ok (.ifCond .eq 5, 3) := by decide +kernel
theorem d_M_link_110 : decode c_M_link 110 = .ok (.iconst 0, 1) := by decide +kernel
theorem d_M_link_111 : decode c_M_link 111 = .ok (.ireturn, 1) := by decide +kernel
theorem d_M_link_112 : decode c_M_link 112 = .ok (.aload_n 0, 1) := by decide +kernel
theorem d_M_link_113 : decode c_M_link 113 = .ok (.getfield 29, 3) := by decide +kernel
theorem d_M_link_116 : decode c_M_link 116 = .ok (.iconst 2, 1) := by decide +kernel
theorem d_M_link_117 : decode c_M_link 117 = .ok (.aload_n 0, 1) := by decide +kernel
theorem d_M_link_118 : decode c_M_link 118 = .ok (.getfield 126, 3) := by decide +kernel
theorem d_M_link_121 : decode c_M_link 121 = .ok (.imul, 1) := by decide +kernel
theorem d_M_link_122 : decode c_M_link 122 = .ok (.iconst 4, 1) := by decide +kernel
theorem d_M_link_123 : decode c_M_link 123 = .ok (.iload_n 1, 1) := by decide +kernel
theorem d_M_link_124 : decode c_M_link 124 = .ok (.imul, 1) := by decide +kernel
theorem d_M_link_125 : decode c_M_link 125 = .ok (.iload_n 2, 1) := by decide +kernel
theorem d_M_link_126 : decode c_M_link 126 = .ok (.iadd, 1) := by decide +kernel
theorem d_M_link_127 : decode c_M_link 127 = .ok (.iastore, 1) := by decide +kernel
theorem d_M_link_128 : decode c_M_link 128 = .ok (.aload_n 0, 1) := by decide +kernel
theorem d_M_link_129 : decode c_M_link 129 = .ok (.getfield 29, 3) := by decide +kernel
theorem d_M_link_132 : decode c_M_link 132 = .ok (.iconst 2, 1) := by decide +kernel
theorem d_M_link_133 : decode c_M_link 133 = .ok (.aload_n 0, 1) := by decide +kernel
theorem d_M_link_134 : decode c_M_link 134 = .ok (.getfield 126, 3) := by decide +kernel
theorem d_M_link_137 : decode c_M_link 137 = .ok (.imul, 1) := by decide +kernel
theorem d_M_link_138 : decode c_M_link 138 = .ok (.iconst 1, 1) := by decide +kernel
theorem d_M_link_139 : decode c_M_link 139 = .ok (.iadd, 1) := by decide +kernel
theorem d_M_link_140 : decode c_M_link 140 = .ok (.iconst 4, 1) := by decide +kernel
theorem d_M_link_141 : decode c_M_link 141 = .ok (.iload_n 3, 1) := by decide +kernel
theorem d_M_link_142 : decode c_M_link 142 = .ok (.imul, 1) := by decide +kernel
theorem d_M_link_143 : decode c_M_link 143 = .ok (.iload 4, 2) := by decide +kernel
theorem d_M_link_145 : decode c_M_link 145 = .ok (.iadd, 1) := by decide +kernel
theorem d_M_link_146 : decode c_M_link 146 = .ok (.iastore, 1) := by decide +kernel
theorem d_M_link_147 : decode c_M_link 147 = .ok (.aload_n 0, 1) := by decide +kernel
theorem d_M_link_148 : decode c_M_link 148 = .ok (.getfield 32, 3) := by decide +kernel
theorem d_M_link_151 : decode c_M_link 151 = .ok (.iconst 2, 1) := by decide +kernel
theorem d_M_link_152 : decode c_M_link 152 = .ok (.aload_n 0, 1) := by decide +kernel
theorem d_M_link_153 : decode c_M_link 153 = .ok (.getfield 126, 3) := by decide +kernel
theorem d_M_link_156 : decode c_M_link 156 = .ok (.imul, 1) := by decide +kernel
theorem d_M_link_157 : decode c_M_link 157 = .ok (.iload 5, 2) := by decide +kernel
theorem d_M_link_159 : decode c_M_link 159 = .ok (.iastore, 1) := by decide +kernel
theorem d_M_link_160 : decode c_M_link 160 = .ok (.aload_n 0, 1) := by decide +kernel
theorem d_M_link_161 : decode c_M_link 161 = .ok (.getfield 32, 3) := by decide +kernel
theorem d_M_link_164 : decode c_M_link 164 = .ok (.iconst 2, 1) := by decide +kernel
theorem d_M_link_165 : decode c_M_link 165 = .ok (.aload_n 0, 1) := by decide +kernel
theorem d_M_link_166 : decode c_M_link 166 = .ok (.getfield 126, 3) := by decide +kernel
theorem d_M_link_169 : decode c_M_link 169 = .ok (.imul, 1) := by decide +kernel
theorem d_M_link_170 : decode c_M_link 170 = .ok (.iconst 1, 1) := by decide +kernel
theorem d_M_link_171 : decode c_M_link 171 = .ok (.iadd, 1) := by decide +kernel
theorem d_M_link_172 : decode c_M_link 172 = .ok (.iload 6, 2) := by decide +kernel
theorem d_M_link_174 : decode c_M_link 174 = .ok (.iastore, 1) := by decide +kernel
theorem d_M_link_175 : decode c_M_link 175 = .ok (.aload_n 0, 1) := by decide +kernel
theorem d_M_link_176 : decode c_M_link 176 = .ok (.getfield 35, 3) := by decide +kernel
theorem d_M_link_179 : decode c_M_link 179 = .ok (.aload_n 0, 1) := by decide +kernel
theorem d_M_link_180 : decode c_M_link 180 = .ok (.getfield 126, 3) := by decide +kernel
theorem d_M_link_183 : decode c_M_link 183 = .ok (.iconst 1, 1) := by decide +kernel
theorem d_M_link_184 : decode c_M_link 184 = .ok (.bastore, 1) := by decide +kernel
theorem d_M_link_185 : decode c_M_link 185 = .ok (.aload_n 0, 1) := by decide +kernel
theorem d_M_link_186 : decode c_M_link 186 = .ok (.getfield 39, 3) := by decide +kernel
theorem d_M_link_189 : decode c_M_link 189 = .ok (.iconst 4, 1) := by decide +kernel
theorem d_M_link_190 : decode c_M_link 190 = .ok (.iload_n 1, 1) := by decide +kernel
theorem d_M_link_191 : decode c_M_link 191 = .ok (.imul, 1) := by decide +kernel
theorem d_M_link_192 : decode c_M_link 192 = .ok (.iload_n 2, 1) := by decide +kernel
theorem d_M_link_193 : decode c_M_link 193 = .ok (.iadd, 1) := by decide +kernel
theorem d_M_link_194 : decode c_M_link 194 = .ok (.aload_n 0, 1) := by decide +kernel
theorem d_M_link_195 : decode c_M_link 195 = .ok (.getfield 126, 3) := by decide +kernel
theorem d_M_link_198 : decode c_M_link 198 = .ok (.iastore, 1) := by decide +kernel
theorem d_M_link_199 : decode c_M_link 199 = .ok (.aload_n 0, 1) := by decide +kernel
theorem d_M_link_200 : decode c_M_link 200 = .ok (.getfield 39, 3) := by decide +kernel
theorem d_M_link_203 : decode c_M_link 203 = .ok (.iconst 4, 1) := by decide +kernel
theorem d_M_link_204 : decode c_M_link 204 = .ok (.iload_n 3, 1) := by decide +kernel
theorem d_M_link_205 : decode c_M_link 205 = .ok (.imul, 1) := by decide +kernel
theorem d_M_link_206 : decode c_M_link 206 = .ok (.iload 4, 2) := by decide +kernel
theorem d_M_link_208 : decode c_M_link 208 = .ok (.iadd, 1) := by decide +kernel
theorem d_M_link_209 : decode c_M_link 209 = .ok (.aload_n 0, 1) := by decide +kernel
theorem d_M_link_210 : decode c_M_link 210 = .ok (.getfield 126, 3) := by decide +kernel
theorem d_M_link_213 : decode c_M_link 213 = .ok (.iastore, 1) := by decide +kernel
theorem d_M_link_214 : decode c_M_link 214 = .ok (.aload_n 0, 1) := by decide +kernel
theorem d_M_link_215 : decode c_M_link 215 = .ok (.dup, 1) := by decide +kernel
theorem d_M_link_216 : decode c_M_link 216 = .ok (.getfield 126, 3) := by decide +kernel
theorem d_M_link_219 : decode c_M_link 219 = .ok (.iconst 1, 1) := by decide +kernel
theorem d_M_link_220 : decode c_M_link 220 = .ok (.iadd, 1) := by decide +kernel
theorem d_M_link_221 : decode c_M_link 221 = .ok (.putfield 126, 3) := by decide +kernel
theorem d_M_link_224 : decode c_M_link 224 = .ok (.aload_n 0, 1) := by decide +kernel
theorem d_M_link_225 : decode c_M_link 225 = .ok (.invokevirtual 112, 3) := by decide +kernel
theorem d_M_link_228 : decode c_M_link 228 = .ok (.aload_n 0, 1) := by decide +kernel
theorem d_M_link_229 : decode c_M_link 229 = .ok (.getfield 126, 3) := by decide +kernel
theorem d_M_link_232 : decode c_M_link 232 = .ok (.iconst 1, 1) := by decide +kernel
theorem d_M_link_233 : decode c_M_link 233 = .ok (.isub, 1) := by decide +kernel
theorem d_M_link_234 : decode c_M_link 234 = .ok (.ireturn, 1) := by decide +kernel
theorem d_M_noPort_0 : decode c_M_noPort 0 = .ok (.aload_n 0, 1) := by decide +kernel
theorem d_M_noPort_1 : decode c_M_noPort 1 = .ok (.iload_n 1, 1) := by decide +kernel
theorem d_M_noPort_2 : decode c_M_noPort 2 = .ok (.invokevirtual 115, 3) := by decide +kernel
theorem d_M_noPort_5 : decode c_M_noPort 5 = .ok (.ifCond .ne 12, 3) := by decide +kernel
theorem d_M_noPort_8 : decode c_M_noPort 8 = .ok (.iload_n 2, 1) := by decide +kernel
theorem d_M_noPort_9 : decode c_M_noPort 9 = .ok (.ifCond .lt 8, 3) := by decide +kernel
theorem d_M_noPort_12 : decode c_M_noPort 12 = .ok (.iload_n 2, 1) := by decide +kernel
theorem d_M_noPort_13 : decode c_M_noPort 13 = .ok (.iconst 3, 1) := by decide +kernel
theorem d_M_noPort_14 : decode c_M_noPort 14 = .ok (.if_icmp .le 7, 3) := by decide +kernel
theorem d_M_noPort_17 : decode c_M_noPort 17 = .ok (.iconst 1, 1) := by decide +kernel
theorem d_M_noPort_18 : decode c_M_noPort 18 = .ok (.goto 4, 3) := by decide +kernel
theorem d_M_noPort_21 : decode c_M_noPort 21 = .ok (.iconst 0, 1) := by decide +kernel
theorem d_M_noPort_22 : decode c_M_noPort 22 = .ok (.ireturn, 1) := by decide +kernel
theorem d_M_noNode_0 : decode c_M_noNode 0 = .ok (.iload_n 1, 1) := by decide +kernel
theorem d_M_noNode_1 : decode c_M_noNode 1 = .ok (.ifCond .lt 11, 3) := by decide +kernel
theorem d_M_noNode_4 : decode c_M_noNode 4 = .ok (.iload_n 1, 1) := by decide +kernel
theorem d_M_noNode_5 : decode c_M_noNode 5 = .ok (.aload_n 0, 1) := by decide +kernel
theorem d_M_noNode_6 : decode c_M_noNode 6 = .ok (.getfield 100, 3) := by decide +kernel
theorem d_M_noNode_9 : decode c_M_noNode 9 = .ok (.if_icmp .lt 7, 3) := by decide +kernel
theorem d_M_noNode_12 : decode c_M_noNode 12 = .ok (.iconst 1, 1) := by decide +kernel
theorem d_M_noNode_13 : decode c_M_noNode 13 = .ok (.goto 4, 3) := by decide +kernel
theorem d_M_noNode_16 : decode c_M_noNode 16 = .ok (.iconst 0, 1) := by decide +kernel
theorem d_M_noNode_17 : decode c_M_noNode 17 = .ok (.ireturn, 1) := by decide +kernel
theorem d_M_noDelay_0 : decode c_M_noDelay 0 = .ok (.iload_n 1, 1) := by decide +kernel
theorem d_M_noDelay_1 : decode c_M_noDelay 1 = .ok (.ifCond .lt 9, 3) := by decide +kernel
theorem d_M_noDelay_4 : decode c_M_noDelay 4 = .ok (.iload_n 1, 1) := by decide +kernel
theorem d_M_noDelay_5 : decode c_M_noDelay 5 = .ok (.ldc 118, 2) := by decide +kernel
theorem d_M_noDelay_7 : decode c_M_noDelay 7 = .ok (.if_icmp .le 7, 3) := by decide +kernel
theorem d_M_noDelay_10 : decode c_M_noDelay 10 = .ok (.iconst 1, 1) := by decide +kernel
theorem d_M_noDelay_11 : decode c_M_noDelay 11 = .ok (.goto 4, 3) := by decide +kernel
theorem d_M_noDelay_14 : decode c_M_noDelay 14 = .ok (.iconst 0, 1) := by decide +kernel
theorem d_M_noDelay_15 : decode c_M_noDelay 15 = .ok (.ireturn, 1) := by decide +kernel
theorem d_M_up_0 : decode c_M_up 0 = .ok (.aload_n 0, 1) := by decide +kernel
theorem d_M_up_1 : decode c_M_up 1 = .ok (.iload_n 1, 1) := by decide +kernel
theorem d_M_up_2 : decode c_M_up 2 = .ok (.ifCond .lt 11, 3) := by decide +kernel
theorem d_M_up_5 : decode c_M_up 5 = .ok (.iload_n 1, 1) := by decide +kernel
theorem d_M_up_6 : decode c_M_up 6 = .ok (.aload_n 0, 1) := by decide +kernel
theorem d_M_up_7 : decode c_M_up 7 = .ok (.getfield 126, 3) := by decide +kernel
theorem d_M_up_10 : decode c_M_up 10 = .ok (.if_icmp .lt 7, 3) := by decide +kernel
theorem d_M_up_13 : decode c_M_up 13 = .ok (.iconst 1, 1) := by decide +kernel
theorem d_M_up_14 : decode c_M_up 14 = .ok (.goto 4, 3) := by decide +kernel
theorem d_M_up_17 : decode c_M_up 17 = .ok (.iconst 0, 1) := by decide +kernel
theorem d_M_up_18 : decode c_M_up 18 = .ok (.putfield 78, 3) := by decide +kernel
theorem d_M_up_21 : decode c_M_up 21 = .ok (.aload_n 0, 1) := by decide +kernel
theorem d_M_up_22 : decode c_M_up 22 = .ok (.getfield 78, 3) := by decide +kernel
theorem d_M_up_25 : decode c_M_up 25 = .ok (.ifCond .ne 10, 3) := by decide +kernel
theorem d_M_up_28 : decode c_M_up 28 = .ok (.aload_n 0, 1) := by decide +kernel
theorem d_M_up_29 : decode c_M_up 29 = .ok (.getfield 35, 3) := by decide +kernel
theorem d_M_up_32 : decode c_M_up 32 = .ok (.iload_n 1, 1) := by decide +kernel
theorem d_M_up_33 : decode c_M_up 33 = .ok (.iload_n 2, 1) := by decide +kernel
theorem d_M_up_34 : decode c_M_up 34 = .ok (.bastore, 1) := by decide +kernel
theorem d_M_up_35 : decode c_M_up 35 = .ok (.return_, 1) := by decide +kernel
theorem d_M_priority_0 : decode c_M_priority 0 = .ok (.aload_n 0, 1) := by decide +kernel
theorem d_M_priority_1 : decode c_M_priority 1 = .ok (.aload_n 0, 1) := by decide +kernel
theorem d_M_priority_2 : decode c_M_priority 2 = .ok (.iload_n 1, 1) := by decide +kernel
theorem d_M_priority_3 : decode c_M_priority 3 = .ok (.invokevirtual 115, 3) := by decide +kernel
theorem d_M_priority_6 : decode c_M_priority 6 = .ok (.ifCond .ne 11, 3) := by decide +kernel
theorem d_M_priority_9 : decode c_M_priority 9 = .ok (.aload_n 0, 1) := by decide +kernel
theorem d_M_priority_10 : decode c_M_priority 10 = .ok (.iload_n 2, 1) := by decide +kernel
theorem d_M_priority_11 : decode c_M_priority 11 = .ok (.invokevirtual 106, 3) := by decide +kernel
theorem d_M_priority_14 : decode c_M_priority 14 = .ok (.ifCond .ne 7, 3) := by decide +kernel
theorem d_M_priority_17 : decode c_M_priority 17 = .ok (.iconst 1, 1) := by decide +kernel
theorem d_M_priority_18 : decode c_M_priority 18 = .ok (.goto 4, 3) := by decide +kernel
theorem d_M_priority_21 : decode c_M_priority 21 = .ok (.iconst 0, 1) := by decide +kernel
theorem d_M_priority_22 : decode c_M_priority 22 = .ok (.putfield 78, 3) := by decide +kernel
theorem d_M_priority_25 : decode c_M_priority 25 = .ok (.aload_n 0, 1) := by decide +kernel
theorem d_M_priority_26 : decode c_M_priority 26 = .ok (.getfield 78, 3) := by decide +kernel
theorem d_M_priority_29 : decode c_M_priority 29 = .ok (.ifCond .ne 14, 3) := by decide +kernel
theorem d_M_priority_32 : decode c_M_priority 32 = .ok (.aload_n 0, 1) := by decide +kernel
theorem d_M_priority_33 : decode c_M_priority 33 = .ok (.getfield 13, 3) := by decide +kernel
theorem d_M_priority_36 : decode c_M_priority 36 = .ok (.iload_n 1, 1) := by decide +kernel
theorem d_M_priority_37 : decode c_M_priority 37 = .ok (.iload_n 2, 1) := by decide +kernel
theorem d_M_priority_38 : decode c_M_priority 38 = .ok (.iastore, 1) := by decide +kernel
theorem d_M_priority_39 : decode c_M_priority 39 = .ok (.aload_n 0, 1) := by decide +kernel
theorem d_M_priority_40 : decode c_M_priority 40 = .ok (.invokevirtual 112, 3) := by decide +kernel
theorem d_M_priority_43 : decode c_M_priority 43 = .ok (.return_, 1) := by decide +kernel
theorem d_M_round_0 : decode c_M_round 0 = .ok (.aload_n 0, 1) := by decide +kernel
theorem d_M_round_1 : decode c_M_round 1 = .ok (.iload_n 1, 1) := by decide +kernel
theorem d_M_round_2 : decode c_M_round 2 = .ok (.iconst 1, 1) := by decide +kernel
theorem d_M_round_3 : decode c_M_round 3 = .ok (.if_icmp .lt 9, 3) := by decide +kernel
theorem d_M_round_6 : decode c_M_round 6 = .ok (.iload_n 1, 1) := by decide +kernel
theorem d_M_round_7 : decode c_M_round 7 = .ok (.bipush 50, 2) := by decide +kernel
theorem d_M_round_9 : decode c_M_round 9 = .ok (.if_icmp .le 7, 3) := by decide +kernel
theorem d_M_round_12 : decode c_M_round 12 = .ok (.iconst 1, 1) := by decide +kernel
theorem d_M_round_13 : decode c_M_round 13 = .ok (.goto 4, 3) := by decide +kernel
theorem d_M_round_16 : decode c_M_round 16 = .ok (.iconst 0, 1) := by decide +kernel
theorem d_M_round_17 : decode c_M_round 17 = .ok (.putfield 78, 3) := by decide +kernel
theorem d_M_round_20 : decode c_M_round 20 = .ok (.iconst 0, 1) := by decide +kernel
theorem d_M_round_21 : decode c_M_round 21 = .ok (.istore_n 2, 1) := by decide +kernel
theorem d_M_round_22 : decode c_M_round 22 = .ok (.iconst 0, 1) := by decide +kernel
theorem d_M_round_23 : decode c_M_round 23 = .ok (.istore_n 3, 1) := by decide +kernel
theorem d_M_round_24 : decode c_M_round 24 = .ok (.iload_n 3, 1) := by decide +kernel
theorem d_M_round_25 : decode c_M_round 25 = .ok (.iload_n 1, 1) := by decide +kernel
theorem d_M_round_26 : decode c_M_round 26 = .ok (.if_icmp .ge 23, 3) := by decide +kernel
theorem d_M_round_29 : decode c_M_round 29 = .ok (.aload_n 0, 1) := by decide +kernel
theorem d_M_round_30 : decode c_M_round 30 = .ok (.getfield 78, 3) := by decide +kernel
theorem d_M_round_33 : decode c_M_round 33 = .ok (.ifCond .ne 16, 3) := by decide +kernel
theorem d_M_round_36 : decode c_M_round 36 = .ok (.iload_n 2, 1) := by decide +kernel
theorem d_M_round_37 : decode c_M_round 37 = .ok (.aload_n 0, 1) := by decide +kernel
theorem d_M_round_38 : decode c_M_round 38 = .ok (.invokevirtual 143, 3) := by decide +kernel
theorem d_M_round_41 : decode c_M_round 41 = .ok (.iadd, 1) := by decide +kernel
theorem d_M_round_42 : decode c_M_round 42 = .ok (.istore_n 2, 1) := by decide +kernel
theorem d_M_round_43 : decode c_M_round 43 = .ok (.iinc 3 1, 3) := by decide +kernel
theorem d_M_round_46 : decode c_M_round 46 = .ok (.goto (-22), 3) := by decide +kernel
theorem d_M_round_49 : decode c_M_round 49 = .ok (.iload_n 2, 1) := by decide +kernel
theorem d_M_round_50 : decode c_M_round 50 = .ok (.ireturn, 1) := by decide +kernel
theorem d_M_pass_0 : decode c_M_pass 0 = .ok (.aload_n 0, 1) := by decide +kernel
theorem d_M_pass_1 : decode c_M_pass 1 = .ok (.invokevirtual 136, 3) := by decide +kernel
theorem d_M_pass_4 : decode c_M_pass 4 = .ok (.istore_n 1, 1) := by decide +kernel
theorem d_M_pass_5 : decode c_M_pass 5 = .ok (.iconst 0, 1) := by decide +kernel
theorem d_M_pass_6 : decode c_M_pass 6 = .ok (.istore_n 2, 1) := by decide +kernel
theorem d_M_pass_7 : decode c_M_pass 7 = .ok (.iload_n 2, 1) := by decide +kernel
theorem d_M_pass_8 : decode c_M_pass 8 = .ok (.iconst 4, 1) := by decide +kernel
theorem d_M_pass_9 : decode c_M_pass 9 = .ok (.aload_n 0, 1) := by decide +kernel
theorem d_M_pass_10 : decode c_M_pass 10 = .ok (.getfield 100, 3) := by decide +kernel
theorem d_M_pass_13 : decode c_M_pass 13 = .ok (.imul, 1) := by decide +kernel
theorem d_M_pass_14 : decode c_M_pass 14 = .ok (.if_icmp .ge 14, 3) := by decide +kernel
theorem d_M_pass_17 : decode c_M_pass 17 = .ok (.aload_n 0, 1) := by decide +kernel
theorem d_M_pass_18 : decode c_M_pass 18 = .ok (.iload_n 2, 1) := by decide +kernel
theorem d_M_pass_19 : decode c_M_pass 19 = .ok (.invokevirtual 140, 3) := by decide +kernel
theorem d_M_pass_22 : decode c_M_pass 22 = .ok (.iinc 2 1, 3) := by decide +kernel
theorem d_M_pass_25 : decode c_M_pass 25 = .ok (.goto (-18), 3) := by decide +kernel
theorem d_M_pass_28 : decode c_M_pass 28 = .ok (.aload_n 0, 1) := by decide +kernel
theorem d_M_pass_29 : decode c_M_pass 29 = .ok (.invokevirtual 112, 3) := by decide +kernel
theorem d_M_pass_32 : decode c_M_pass 32 = .ok (.iload_n 1, 1) := by decide +kernel
theorem d_M_pass_33 : decode c_M_pass 33 = .ok (.ireturn, 1) := by decide +kernel
theorem d_M_sendAll_0 : decode c_M_sendAll 0 = .ok (.iconst 0, 1) := by decide +kernel
theorem d_M_sendAll_1 : decode c_M_sendAll 1 = .ok (.istore_n 1, 1) := by decide +kernel
theorem d_M_sendAll_2 : decode c_M_sendAll 2 = .ok (.iconst 0, 1) := by decide +kernel
theorem d_M_sendAll_3 : decode c_M_sendAll 3 = .ok (.istore_n 2, 1) := by decide +kernel
theorem d_M_sendAll_4 : decode c_M_sendAll 4 = .ok (.iload_n 2, 1) := by decide +kernel
theorem d_M_sendAll_5 : decode c_M_sendAll 5 = .ok (.bipush 40, 2) := by decide +kernel
theorem d_M_sendAll_7 : decode c_M_sendAll 7 = .ok (.if_icmp .ge 16, 3) := by decide +kernel
theorem d_M_sendAll_10 : decode c_M_sendAll 10 = .ok (.aload_n 0, 1) := by decide +kernel
theorem d_M_sendAll_11 : decode c_M_sendAll 11 = .ok (.getfield 54, 3) := by decide +kernel
theorem d_M_sendAll_14 : decode c_M_sendAll 14 = .ok (.iload_n 2, 1) := by decide +kernel
theorem d_M_sendAll_15 : decode c_M_sendAll 15 = .ok (.iconst 0, 1) := by decide +kernel
theorem d_M_sendAll_16 : decode c_M_sendAll 16 = .ok (.bastore, 1) := by decide +kernel
theorem d_M_sendAll_17 : decode c_M_sendAll 17 = .ok (.iinc 2 1, 3) := by decide +kernel
theorem d_M_sendAll_20 : decode c_M_sendAll 20 = .ok (.goto (-16), 3) := by decide +kernel
theorem d_M_sendAll_23 : decode c_M_sendAll 23 = .ok (.iconst 0, 1) := by decide +kernel
theorem d_M_sendAll_24 : decode c_M_sendAll 24 = .ok (.istore_n 2, 1) := by decide +kernel
theorem d_M_sendAll_25 : decode c_M_sendAll 25 = .ok (.iload_n 2, 1) := by decide +kernel
theorem d_M_sendAll_26 : decode c_M_sendAll 26 = .ok (.iconst 4, 1) := by decide +kernel
theorem d_M_sendAll_27 : decode c_M_sendAll 27 = .ok (.aload_n 0, 1) := by decide +kernel
theorem d_M_sendAll_28 : decode c_M_sendAll 28 = .ok (.getfield 100, 3) := by decide +kernel
theorem d_M_sendAll_31 : decode c_M_sendAll 31 = .ok (.imul, 1) := by decide +kernel
theorem d_M_sendAll_32 : decode c_M_sendAll 32 = .ok (.if_icmp .ge 104, 3) := by decide +kernel
theorem d_M_sendAll_35 : decode c_M_sendAll 35 = .ok (.aload_n 0, 1) := by decide +kernel
theorem d_M_sendAll_36 : decode c_M_sendAll 36 = .ok (.getfield 42, 3) := by decide +kernel
theorem d_M_sendAll_39 : decode c_M_sendAll 39 = .ok (.iload_n 2, 1) := by decide +kernel
theorem d_M_sendAll_40 : decode c_M_sendAll 40 = .ok (.iaload, 1) := by decide +kernel
theorem d_M_sendAll_41 : decode c_M_sendAll 41 = .ok (.iconst 1, 1) := by decide +kernel
theorem d_M_sendAll_42 : decode c_M_sendAll 42 = .ok (.if_icmp .ne 88, 3) := by decide +kernel
theorem d_M_sendAll_45 : decode c_M_sendAll 45 = .ok (.aload_n 0, 1) := by decide +kernel
theorem d_M_sendAll_46 : decode c_M_sendAll 46 = .ok (.getfield 35, 3) := by decide +kernel
theorem d_M_sendAll_49 : decode c_M_sendAll 49 = .ok (.aload_n 0, 1) := by decide +kernel
theorem d_M_sendAll_50 : decode c_M_sendAll 50 = .ok (.getfield 39, 3) := by decide +kernel
theorem d_M_sendAll_53 : decode c_M_sendAll 53 = .ok (.iload_n 2, 1) := by decide +kernel
theorem d_M_sendAll_54 : decode c_M_sendAll 54 = .ok (.iaload, 1) := by decide +kernel
theorem d_M_sendAll_55 : decode c_M_sendAll 55 = .ok (.baload, 1) := by decide +kernel
theorem d_M_sendAll_56 : decode c_M_sendAll 56 = .ok (.ifCond .eq 74, 3) := by decide +kernel
theorem d_M_sendAll_59 : decode c_M_sendAll 59 = .ok (.aload_n 0, 1) := by decide +kernel
theorem d_M_sendAll_60 : decode c_M_sendAll 60 = .ok (.iload_n 2, 1) := by decide +kernel
theorem d_M_sendAll_61 : decode c_M_sendAll 61 = .ok (.invokevirtual 133, 3) := by decide +kernel
theorem d_M_sendAll_64 : decode c_M_sendAll 64 = .ok (.istore_n 3, 1) := by decide +kernel
theorem d_M_sendAll_65 : decode c_M_sendAll 65 = .ok (.aload_n 0, 1) := by decide +kernel
theorem d_M_sendAll_66 : decode c_M_sendAll 66 = .ok (.iload_n 2, 1) := by decide +kernel
theorem d_M_sendAll_67 : decode c_M_sendAll 67 = .ok (.invokevirtual 97, 3) := by decide +kernel
theorem d_M_sendAll_70 : decode c_M_sendAll 70 = .ok (.iconst 0, 1) := by decide +kernel
theorem d_M_sendAll_71 : decode c_M_sendAll 71 = .ok (.istore 4, 2) := by decide +kernel
theorem d_M_sendAll_73 : decode c_M_sendAll 73 = .ok (.iload 4, 2) := by decide +kernel
theorem d_M_sendAll_75 : decode c_M_sendAll 75 = .ok (.bipush 7, 2) := by decide +kernel
theorem d_M_sendAll_77 : decode c_M_sendAll 77 = .ok (.if_icmp .ge 28, 3) := by decide +kernel
theorem d_M_sendAll_80 : decode c_M_sendAll 80 = .ok (.aload_n 0, 1) := by decide +kernel
theorem d_M_sendAll_81 : decode c_M_sendAll 81 = .ok (.getfield 57, 3) := by decide +kernel
theorem d_M_sendAll_84 : decode c_M_sendAll 84 = .ok (.bipush 8, 2) := by decide +kernel
theorem d_M_sendAll_86 : decode c_M_sendAll 86 = .ok (.iload_n 3, 1) := by decide +kernel
theorem d_M_sendAll_87 : decode c_M_sendAll 87 = .ok (.imul, 1) := by decide +kernel
theorem d_M_sendAll_88 : decode c_M_sendAll 88 = .ok (.iload 4, 2) := by decide +kernel
theorem d_M_sendAll_90 : decode c_M_sendAll 90 = .ok (.iadd, 1) := by decide +kernel
theorem d_M_sendAll_91 : decode c_M_sendAll 91 = .ok (.aload_n 0, 1) := by decide +kernel
theorem d_M_sendAll_92 : decode c_M_sendAll 92 = .ok (.getfield 72, 3) := by decide +kernel
theorem d_M_sendAll_95 : decode c_M_sendAll 95 = .ok (.iload 4, 2) := by decide +kernel
theorem d_M_sendAll_97 : decode c_M_sendAll 97 = .ok (.iaload, 1) := by decide +kernel
theorem d_M_sendAll_98 : decode c_M_sendAll 98 = .ok (.iastore, 1) := by decide +kernel
theorem d_M_sendAll_99 : decode c_M_sendAll 99 = .ok (.iinc 4 1, 3) := by decide +kernel
theorem d_M_sendAll_102 : decode c_M_sendAll 102 = .ok (.goto (-29), 3) := by decide +kernel
theorem d_M_sendAll_105 : decode c_M_sendAll 105 = .ok (.aload_n 0, 1) := by decide +kernel
theorem d_M_sendAll_106 : decode c_M_sendAll 106 = .ok (.getfield 57, 3) := by decide +kernel
theorem d_M_sendAll_109 : decode c_M_sendAll 109 = .ok (.bipush 8, 2) := by decide +kernel
theorem d_M_sendAll_111 : decode c_M_sendAll 111 = .ok (.iload_n 3, 1) := by decide +kernel
theorem d_M_sendAll_112 : decode c_M_sendAll 112 = .ok (.imul, 1) := by decide +kernel
theorem d_M_sendAll_113 : decode c_M_sendAll 113 = .ok (.bipush 7, 2) := by decide +kernel
theorem d_M_sendAll_115 : decode c_M_sendAll 115 = .ok (.iadd, 1) := by decide +kernel
theorem d_M_sendAll_116 : decode c_M_sendAll 116 = .ok (.iload_n 3, 1) := by decide +kernel
theorem d_M_sendAll_117 : decode c_M_sendAll 117 = .ok (.iconst 4, 1) := by decide +kernel
theorem d_M_sendAll_118 : decode c_M_sendAll 118 = .ok (.irem, 1) := by decide +kernel
theorem d_M_sendAll_119 : decode c_M_sendAll 119 = .ok (.iastore, 1) := by decide +kernel
theorem d_M_sendAll_120 : decode c_M_sendAll 120 = .ok (.aload_n 0, 1) := by decide +kernel
theorem d_M_sendAll_121 : decode c_M_sendAll 121 = .ok (.getfield 54, 3) := by decide +kernel
theorem d_M_sendAll_124 : decode c_M_sendAll 124 = .ok (.iload_n 3, 1) := by decide +kernel
theorem d_M_sendAll_125 : decode c_M_sendAll 125 = .ok (.iconst 1, 1) := by decide +kernel
theorem d_M_sendAll_126 : decode c_M_sendAll 126 = .ok (.bastore, 1) := by decide +kernel
theorem d_M_sendAll_127 : decode c_M_sendAll 127 = .ok (.iinc 1 1, 3) := by decide +kernel
theorem d_M_sendAll_130 : decode c_M_sendAll 130 = .ok (.iinc 2 1, 3) := by decide +kernel
theorem d_M_sendAll_133 : decode c_M_sendAll 133 = .ok (.goto (-108), 3) := by decide +kernel
theorem d_M_sendAll_136 : decode c_M_sendAll 136 = .ok (.iload_n 1, 1) := by decide +kernel
theorem d_M_sendAll_137 : decode c_M_sendAll 137 = .ok (.ireturn, 1) := by decide +kernel
theorem d_M_across_0 : decode c_M_across 0 = .ok (.aload_n 0, 1) := by decide +kernel
theorem d_M_across_1 : decode c_M_across 1 = .ok (.iload_n 1, 1) := by decide +kernel
theorem d_M_across_2 : decode c_M_across 2 = .ok (.invokevirtual 129, 3) := by decide +kernel
theorem d_M_across_5 : decode c_M_across 5 = .ok (.istore_n 2, 1) := by decide +kernel
theorem d_M_across_6 : decode c_M_across 6 = .ok (.aload_n 0, 1) := by decide +kernel
theorem d_M_across_7 : decode c_M_across 7 = .ok (.getfield 29, 3) := by decide +kernel
theorem d_M_across_10 : decode c_M_across 10 = .ok (.iload_n 2, 1) := by decide +kernel
theorem d_M_across_11 : decode c_M_across 11 = .ok (.iconst 2, 1) := by decide +kernel
theorem d_M_across_12 : decode c_M_across 12 = .ok (.irem, 1) := by decide +kernel
theorem d_M_across_13 : decode c_M_across 13 = .ok (.ifCond .ne 9, 3) := by decide +kernel
theorem d_M_across_16 : decode c_M_across 16 = .ok (.iload_n 2, 1) := by decide +kernel
theorem d_M_across_17 : decode c_M_across 17 = .ok (.iconst 1, 1) := by decide +kernel
theorem d_M_across_18 : decode c_M_across 18 = .ok (.iadd, 1) := by decide +kernel
theorem d_M_across_19 : decode c_M_across 19 = .ok (.goto 6, 3) := by decide +kernel
theorem d_M_across_22 : decode c_M_across 22 = .ok (.iload_n 2, 1) := by decide +kernel
theorem d_M_across_23 : decode c_M_across 23 = .ok (.iconst 1, 1) := by decide +kernel
theorem d_M_across_24 : decode c_M_across 24 = .ok (.isub, 1) := by decide +kernel
theorem d_M_across_25 : decode c_M_across 25 = .ok (.iaload, 1) := by decide +kernel
theorem d_M_across_26 : decode c_M_across 26 = .ok (.ireturn, 1) := by decide +kernel
theorem d_M_endOf_0 : decode c_M_endOf 0 = .ok (.aload_n 0, 1) := by decide +kernel
theorem d_M_endOf_1 : decode c_M_endOf 1 = .ok (.getfield 39, 3) := by decide +kernel
theorem d_M_endOf_4 : decode c_M_endOf 4 = .ok (.iload_n 1, 1) := by decide +kernel
theorem d_M_endOf_5 : decode c_M_endOf 5 = .ok (.iaload, 1) := by decide +kernel
theorem d_M_endOf_6 : decode c_M_endOf 6 = .ok (.istore_n 2, 1) := by decide +kernel
theorem d_M_endOf_7 : decode c_M_endOf 7 = .ok (.aload_n 0, 1) := by decide +kernel
theorem d_M_endOf_8 : decode c_M_endOf 8 = .ok (.getfield 29, 3) := by decide +kernel
theorem d_M_endOf_11 : decode c_M_endOf 11 = .ok (.iconst 2, 1) := by decide +kernel
theorem d_M_endOf_12 : decode c_M_endOf 12 = .ok (.iload_n 2, 1) := by decide +kernel
theorem d_M_endOf_13 : decode c_M_endOf 13 = .ok (.imul, 1) := by decide +kernel
theorem d_M_endOf_14 : decode c_M_endOf 14 = .ok (.iaload, 1) := by decide +kernel
theorem d_M_endOf_15 : decode c_M_endOf 15 = .ok (.iload_n 1, 1) := by decide +kernel
theorem d_M_endOf_16 : decode c_M_endOf 16 = .ok (.if_icmp .ne 9, 3) := by decide +kernel
theorem d_M_endOf_19 : decode c_M_endOf 19 = .ok (.iconst 2, 1) := by decide +kernel
theorem d_M_endOf_20 : decode c_M_endOf 20 = .ok (.iload_n 2, 1) := by decide +kernel
theorem d_M_endOf_21 : decode c_M_endOf 21 = .ok (.imul, 1) := by decide +kernel
theorem d_M_endOf_22 : decode c_M_endOf 22 = .ok (.goto 8, 3) := by decide +kernel
theorem d_M_endOf_25 : decode c_M_endOf 25 = .ok (.iconst 2, 1) := by decide +kernel
theorem d_M_endOf_26 : decode c_M_endOf 26 = .ok (.iload_n 2, 1) := by decide +kernel
theorem d_M_endOf_27 : decode c_M_endOf 27 = .ok (.imul, 1) := by decide +kernel
theorem d_M_endOf_28 : decode c_M_endOf 28 = .ok (.iconst 1, 1) := by decide +kernel
theorem d_M_endOf_29 : decode c_M_endOf 29 = .ok (.iadd, 1) := by decide +kernel
theorem d_M_endOf_30 : decode c_M_endOf 30 = .ok (.ireturn, 1) := by decide +kernel
theorem d_M_hear_0 : decode c_M_hear 0 = .ok (.aload_n 0, 1) := by decide +kernel
theorem d_M_hear_1 : decode c_M_hear 1 = .ok (.getfield 54, 3) := by decide +kernel
theorem d_M_hear_4 : decode c_M_hear 4 = .ok (.iload_n 1, 1) := by decide +kernel
theorem d_M_hear_5 : decode c_M_hear 5 = .ok (.baload, 1) := by decide +kernel
theorem d_M_hear_6 : decode c_M_hear 6 = .ok (.ifCond .eq 45, 3) := by decide +kernel
theorem d_M_hear_9 : decode c_M_hear 9 = .ok (.aload_n 0, 1) := by decide +kernel
theorem d_M_hear_10 : decode c_M_hear 10 = .ok (.getfield 57, 3) := by decide +kernel
theorem d_M_hear_13 : decode c_M_hear 13 = .ok (.bipush 8, 2) := by decide +kernel
theorem d_M_hear_15 : decode c_M_hear 15 = .ok (.iload_n 1, 1) := by decide +kernel
theorem d_M_hear_16 : decode c_M_hear 16 = .ok (.imul, 1) := by decide +kernel
theorem d_M_hear_17 : decode c_M_hear 17 = .ok (.iconst 4, 1) := by decide +kernel
theorem d_M_hear_18 : decode c_M_hear 18 = .ok (.iadd, 1) := by decide +kernel
theorem d_M_hear_19 : decode c_M_hear 19 = .ok (.iaload, 1) := by decide +kernel
theorem d_M_hear_20 : decode c_M_hear 20 = .ok (.bipush 15, 2) := by decide +kernel
theorem d_M_hear_22 : decode c_M_hear 22 = .ok (.if_icmp .eq 29, 3) := by decide +kernel
theorem d_M_hear_25 : decode c_M_hear 25 = .ok (.aload_n 0, 1) := by decide +kernel
theorem d_M_hear_26 : decode c_M_hear 26 = .ok (.getfield 57, 3) := by decide +kernel
theorem d_M_hear_29 : decode c_M_hear 29 = .ok (.bipush 8, 2) := by decide +kernel
theorem d_M_hear_31 : decode c_M_hear 31 = .ok (.iload_n 1, 1) := by decide +kernel
theorem d_M_hear_32 : decode c_M_hear 32 = .ok (.imul, 1) := by decide +kernel
theorem d_M_hear_33 : decode c_M_hear 33 = .ok (.iconst 3, 1) := by decide +kernel
theorem d_M_hear_34 : decode c_M_hear 34 = .ok (.iadd, 1) := by decide +kernel
theorem d_M_hear_35 : decode c_M_hear 35 = .ok (.iaload, 1) := by decide +kernel
theorem d_M_hear_36 : decode c_M_hear 36 = .ok (.aload_n 0, 1) := by decide +kernel
theorem d_M_hear_37 : decode c_M_hear 37 = .ok (.getfield 7, 3) := by decide +kernel
theorem d_M_hear_40 : decode c_M_hear 40 = .ok (.iload_n 1, 1) := by decide +kernel
theorem d_M_hear_41 : decode c_M_hear 41 = .ok (.iconst 4, 1) := by decide +kernel
theorem d_M_hear_42 : decode c_M_hear 42 = .ok (.idiv, 1) := by decide +kernel
theorem d_M_hear_43 : decode c_M_hear 43 = .ok (.iaload, 1) := by decide +kernel
theorem d_M_hear_44 : decode c_M_hear 44 = .ok (.if_icmp .eq 7, 3) := by decide +kernel
theorem d_M_hear_47 : decode c_M_hear 47 = .ok (.iconst 1, 1) := by decide +kernel
theorem d_M_hear_48 : decode c_M_hear 48 = .ok (.goto 4, 3) := by decide +kernel
theorem d_M_hear_51 : decode c_M_hear 51 = .ok (.iconst 0, 1) := by decide +kernel
theorem d_M_hear_52 : decode c_M_hear 52 = .ok (.istore_n 2, 1) := by decide +kernel
theorem d_M_hear_53 : decode c_M_hear 53 = .ok (.iload_n 2, 1) := by decide +kernel
theorem d_M_hear_54 : decode c_M_hear 54 = .ok (.ifCond .eq 56, 3) := by decide +kernel
theorem d_M_hear_57 : decode c_M_hear 57 = .ok (.aload_n 0, 1) := by decide +kernel
theorem d_M_hear_58 : decode c_M_hear 58 = .ok (.getfield 45, 3) := by decide +kernel
theorem d_M_hear_61 : decode c_M_hear 61 = .ok (.iload_n 1, 1) := by decide +kernel
theorem d_M_hear_62 : decode c_M_hear 62 = .ok (.iconst 1, 1) := by decide +kernel
theorem d_M_hear_63 : decode c_M_hear 63 = .ok (.bastore, 1) := by decide +kernel
theorem d_M_hear_64 : decode c_M_hear 64 = .ok (.aload_n 0, 1) := by decide +kernel
theorem d_M_hear_65 : decode c_M_hear 65 = .ok (.getfield 48, 3) := by decide +kernel
theorem d_M_hear_68 : decode c_M_hear 68 = .ok (.iload_n 1, 1) := by decide +kernel
theorem d_M_hear_69 : decode c_M_hear 69 = .ok (.iconst 0, 1) := by decide +kernel
theorem d_M_hear_70 : decode c_M_hear 70 = .ok (.iastore, 1) := by decide +kernel
theorem d_M_hear_71 : decode c_M_hear 71 = .ok (.iconst 0, 1) := by decide +kernel
theorem d_M_hear_72 : decode c_M_hear 72 = .ok (.istore_n 3, 1) := by decide +kernel
theorem d_M_hear_73 : decode c_M_hear 73 = .ok (.iload_n 3, 1) := by decide +kernel
theorem d_M_hear_74 : decode c_M_hear 74 = .ok (.bipush 8, 2) := by decide +kernel
theorem d_M_hear_76 : decode c_M_hear 76 = .ok (.if_icmp .ge 31, 3) := by decide +kernel
theorem d_M_hear_79 : decode c_M_hear 79 = .ok (.aload_n 0, 1) := by decide +kernel
theorem d_M_hear_80 : decode c_M_hear 80 = .ok (.getfield 51, 3) := by decide +kernel
theorem d_M_hear_83 : decode c_M_hear 83 = .ok (.bipush 8, 2) := by decide +kernel
theorem d_M_hear_85 : decode c_M_hear 85 = .ok (.iload_n 1, 1) := by decide +kernel
theorem d_M_hear_86 : decode c_M_hear 86 = .ok (.imul, 1) := by decide +kernel
theorem d_M_hear_87 : decode c_M_hear 87 = .ok (.iload_n 3, 1) := by decide +kernel
theorem d_M_hear_88 : decode c_M_hear 88 = .ok (.iadd, 1) := by decide +kernel
theorem d_M_hear_89 : decode c_M_hear 89 = .ok (.aload_n 0, 1) := by decide +kernel
theorem d_M_hear_90 : decode c_M_hear 90 = .ok (.getfield 57, 3) := by decide +kernel
theorem d_M_hear_93 : decode c_M_hear 93 = .ok (.bipush 8, 2) := by decide +kernel
theorem d_M_hear_95 : decode c_M_hear 95 = .ok (.iload_n 1, 1) := by decide +kernel
theorem d_M_hear_96 : decode c_M_hear 96 = .ok (.imul, 1) := by decide +kernel
theorem d_M_hear_97 : decode c_M_hear 97 = .ok (.iload_n 3, 1) := by decide +kernel
theorem d_M_hear_98 : decode c_M_hear 98 = .ok (.iadd, 1) := by decide +kernel
theorem d_M_hear_99 : decode c_M_hear 99 = .ok (.iaload, 1) := by decide +kernel
theorem d_M_hear_100 : decode c_M_hear 100 = .ok (.iastore, 1) := by decide +kernel
theorem d_M_hear_101 : decode c_M_hear 101 = .ok (.iinc 3 1, 3) := by decide +kernel
theorem d_M_hear_104 : decode c_M_hear 104 = .ok (.goto (-31), 3) := by decide +kernel
theorem d_M_hear_107 : decode c_M_hear 107 = .ok (.goto 43, 3) := by decide +kernel
theorem d_M_hear_110 : decode c_M_hear 110 = .ok (.aload_n 0, 1) := by decide +kernel
theorem d_M_hear_111 : decode c_M_hear 111 = .ok (.getfield 45, 3) := by decide +kernel
theorem d_M_hear_114 : decode c_M_hear 114 = .ok (.iload_n 1, 1) := by decide +kernel
theorem d_M_hear_115 : decode c_M_hear 115 = .ok (.baload, 1) := by decide +kernel
theorem d_M_hear_116 : decode c_M_hear 116 = .ok (.ifCond .eq 34, 3) := by decide +kernel
theorem d_M_hear_119 : decode c_M_hear 119 = .ok (.aload_n 0, 1) := by decide +kernel
theorem d_M_hear_120 : decode c_M_hear 120 = .ok (.getfield 48, 3) := by decide +kernel
theorem d_M_hear_123 : decode c_M_hear 123 = .ok (.iload_n 1, 1) := by decide +kernel
theorem d_M_hear_124 : decode c_M_hear 124 = .ok (.dup2, 1) := by decide +kernel
theorem d_M_hear_125 : decode c_M_hear 125 = .ok (.iaload, 1) := by decide +kernel
theorem d_M_hear_126 : decode c_M_hear 126 = .ok (.iconst 1, 1) := by decide +kernel
theorem d_M_hear_127 : decode c_M_hear 127 = .ok (.iadd, 1) := by decide +kernel
theorem d_M_hear_128 : decode c_M_hear 128 = .ok (.iastore, 1) := by decide +kernel
theorem d_M_hear_129 : decode c_M_hear 129 = .ok (.aload_n 0, 1) := by decide +kernel
theorem d_M_hear_130 : decode c_M_hear 130 = .ok (.getfield 45, 3) := by decide +kernel
theorem d_M_hear_133 : decode c_M_hear 133 = .ok (.iload_n 1, 1) := by decide +kernel
theorem d_M_hear_134 : decode c_M_hear 134 = .ok (.aload_n 0, 1) := by decide +kernel
theorem d_M_hear_135 : decode c_M_hear 135 = .ok (.getfield 48, 3) := by decide +kernel
theorem d_M_hear_138 : decode c_M_hear 138 = .ok (.iload_n 1, 1) := by decide +kernel
theorem d_M_hear_139 : decode c_M_hear 139 = .ok (.iaload, 1) := by decide +kernel
theorem d_M_hear_140 : decode c_M_hear 140 = .ok (.iconst 3, 1) := by decide +kernel
theorem d_M_hear_141 : decode c_M_hear 141 = .ok (.if_icmp .ge 7, 3) := by decide +kernel
theorem d_M_hear_144 : decode c_M_hear 144 = .ok (.iconst 1, 1) := by decide +kernel
theorem d_M_hear_145 : decode c_M_hear 145 = .ok (.goto 4, 3) := by decide +kernel
theorem d_M_hear_148 : decode c_M_hear 148 = .ok (.iconst 0, 1) := by decide +kernel
theorem d_M_hear_149 : decode c_M_hear 149 = .ok (.bastore, 1) := by decide +kernel
theorem d_M_hear_150 : decode c_M_hear 150 = .ok (.return_, 1) := by decide +kernel
theorem d_M_settle_0 : decode c_M_settle 0 = .ok (.aload_n 0, 1) := by decide +kernel
theorem d_M_settle_1 : decode c_M_settle 1 = .ok (.iconst 0, 1) := by decide +kernel
theorem d_M_settle_2 : decode c_M_settle 2 = .ok (.putfield 78, 3) := by decide +kernel
theorem d_M_settle_5 : decode c_M_settle 5 = .ok (.iconst 1, 1) := by decide +kernel
theorem d_M_settle_6 : decode c_M_settle 6 = .ok (.istore_n 1, 1) := by decide +kernel
theorem d_M_settle_7 : decode c_M_settle 7 = .ok (.iload_n 1, 1) := by decide +kernel
theorem d_M_settle_8 : decode c_M_settle 8 = .ok (.bipush 60, 2) := by decide +kernel
theorem d_M_settle_10 : decode c_M_settle 10 = .ok (.if_icmp .gt 27, 3) := by decide +kernel
theorem d_M_settle_13 : decode c_M_settle 13 = .ok (.aload_n 0, 1) := by decide +kernel
theorem d_M_settle_14 : decode c_M_settle 14 = .ok (.invokevirtual 146, 3) := by decide +kernel
theorem d_M_settle_17 : decode c_M_settle 17 = .ok (.aload_n 0, 1) := by decide +kernel
theorem d_M_settle_18 : decode c_M_settle 18 = .ok (.invokevirtual 143, 3) := by decide +kernel
theorem d_M_settle_21 : decode c_M_settle 21 = .ok (.istore_n 2, 1) := by decide +kernel
theorem d_M_settle_22 : decode c_M_settle 22 = .ok (.aload_n 0, 1) := by decide +kernel
theorem d_M_settle_23 : decode c_M_settle 23 = .ok (.invokevirtual 149, 3) := by decide +kernel
theorem d_M_settle_26 : decode c_M_settle 26 = .ok (.ifCond .eq 5, 3) := by decide +kernel
theorem d_M_settle_29 : decode c_M_settle 29 = .ok (.iload_n 1, 1) := by decide +kernel
theorem d_M_settle_30 : decode c_M_settle 30 = .ok (.ireturn, 1) := by decide +kernel
theorem d_M_settle_31 : decode c_M_settle 31 = .ok (.iinc 1 1, 3) := by decide +kernel
theorem d_M_settle_34 : decode c_M_settle 34 = .ok (.goto (-27), 3) := by decide +kernel
theorem d_M_settle_37 : decode c_M_settle 37 = .ok (.bipush 60, 2) := by decide +kernel
theorem d_M_settle_39 : decode c_M_settle 39 = .ok (.ireturn, 1) := by decide +kernel
theorem d_M_remember_0 : decode c_M_remember 0 = .ok (.iconst 0, 1) := by decide +kernel
theorem d_M_remember_1 : decode c_M_remember 1 = .ok (.istore_n 1, 1) := by decide +kernel
theorem d_M_remember_2 : decode c_M_remember 2 = .ok (.iload_n 1, 1) := by decide +kernel
theorem d_M_remember_3 : decode c_M_remember 3 = .ok (.bipush 40, 2) := by decide +kernel
theorem d_M_remember_5 : decode c_M_remember 5 = .ok (.if_icmp .ge 33, 3) := by decide +kernel
theorem d_M_remember_8 : decode c_M_remember 8 = .ok (.aload_n 0, 1) := by decide +kernel
theorem d_M_remember_9 : decode c_M_remember 9 = .ok (.getfield 60, 3) := by decide +kernel
theorem d_M_remember_12 : decode c_M_remember 12 = .ok (.iload_n 1, 1) := by decide +kernel
theorem d_M_remember_13 : decode c_M_remember 13 = .ok (.aload_n 0, 1) := by decide +kernel
theorem d_M_remember_14 : decode c_M_remember 14 = .ok (.getfield 45, 3) := by decide +kernel
theorem d_M_remember_17 : decode c_M_remember 17 = .ok (.iload_n 1, 1) := by decide +kernel
theorem d_M_remember_18 : decode c_M_remember 18 = .ok (.baload, 1) := by decide +kernel
theorem d_M_remember_19 : decode c_M_remember 19 = .ok (.bastore, 1) := by decide +kernel
theorem d_M_remember_20 : decode c_M_remember 20 = .ok (.aload_n 0, 1) := by decide +kernel
theorem d_M_remember_21 : decode c_M_remember 21 = .ok (.getfield 66, 3) := by decide +kernel
theorem d_M_remember_24 : decode c_M_remember 24 = .ok (.iload_n 1, 1) := by decide +kernel
theorem d_M_remember_25 : decode c_M_remember 25 = .ok (.aload_n 0, 1) := by decide +kernel
theorem d_M_remember_26 : decode c_M_remember 26 = .ok (.getfield 42, 3) := by decide +kernel
theorem d_M_remember_29 : decode c_M_remember 29 = .ok (.iload_n 1, 1) := by decide +kernel
theorem d_M_remember_30 : decode c_M_remember 30 = .ok (.iaload, 1) := by decide +kernel
theorem d_M_remember_31 : decode c_M_remember 31 = .ok (.iastore, 1) := by decide +kernel
theorem d_M_remember_32 : decode c_M_remember 32 = .ok (.iinc 1 1, 3) := by decide +kernel
theorem d_M_remember_35 : decode c_M_remember 35 = .ok (.goto (-33), 3) := by decide +kernel
theorem d_M_remember_38 : decode c_M_remember 38 = .ok (.iconst 0, 1) := by decide +kernel
theorem d_M_remember_39 : decode c_M_remember 39 = .ok (.istore_n 1, 1) := by decide +kernel
theorem d_M_remember_40 : decode c_M_remember 40 = .ok (.iload_n 1, 1) := by decide +kernel
theorem d_M_remember_41 : decode c_M_remember 41 = .ok (.sipush 320, 3) := by decide +kernel
theorem d_M_remember_44 : decode c_M_remember 44 = .ok (.if_icmp .ge 21, 3) := by decide +kernel
theorem d_M_remember_47 : decode c_M_remember 47 = .ok (.aload_n 0, 1) := by decide +kernel
theorem d_M_remember_48 : decode c_M_remember 48 = .ok (.getfield 63, 3) := by decide +kernel
theorem d_M_remember_51 : decode c_M_remember 51 = .ok (.iload_n 1, 1) := by decide +kernel
theorem d_M_remember_52 : decode c_M_remember 52 = .ok (.aload_n 0, 1) := by decide +kernel
theorem d_M_remember_53 : decode c_M_remember 53 = .ok (.getfield 51, 3) := by decide +kernel
theorem d_M_remember_56 : decode c_M_remember 56 = .ok (.iload_n 1, 1) := by decide +kernel
theorem d_M_remember_57 : decode c_M_remember 57 = .ok (.iaload, 1) := by decide +kernel
theorem d_M_remember_58 : decode c_M_remember 58 = .ok (.iastore, 1) := by decide +kernel
theorem d_M_remember_59 : decode c_M_remember 59 = .ok (.iinc 1 1, 3) := by decide +kernel
theorem d_M_remember_62 : decode c_M_remember 62 = .ok (.goto (-22), 3) := by decide +kernel
theorem d_M_remember_65 : decode c_M_remember 65 = .ok (.return_, 1) := by decide +kernel
theorem d_M_isAsBefore_0 : decode c_M_isAsBefore 0 = .ok (.iconst 1, 1) := by decide +kernel
theorem d_M_isAsBefore_1 : decode c_M_isAsBefore 1 = .ok (.istore_n 1, 1) := by decide +kernel
theorem d_M_isAsBefore_2 : decode c_M_isAsBefore 2 = .ok (.iconst 0, 1) := by decide +kernel
theorem d_M_isAsBefore_3 : decode c_M_isAsBefore 3 = .ok (.istore_n 2, 1) := by decide +kernel
theorem d_M_isAsBefore_4 : decode c_M_isAsBefore 4 = .ok (.iload_n 2, 1) := by decide +kernel
theorem d_M_isAsBefore_5 : decode c_M_isAsBefore 5 = .ok (.bipush 40, 2) := by decide +kernel
theorem d_M_isAsBefore_7 : decode c_M_isAsBefore 7 = .ok (.if_icmp .ge 107, 3) := by decide +kernel
theorem d_M_isAsBefore_10 : decode c_M_isAsBefore 10 = .ok (.iload_n 1, 1) := by decide +kernel
theorem d_M_isAsBefore_11 : decode c_M_isAsBefore 11 = .ok (.ifCond .eq 37, 3) := by decide +kernel
theorem d_M_isAsBefore_14 : decode c_M_isAsBefore 14 = .ok (.aload_n 0, 1) := by decide +kernel
theorem d_M_isAsBefore_15 : decode c_M_isAsBefore 15 = .ok (.getfield 60, 3) := by decide +kernel
theorem d_M_isAsBefore_18 : decode c_M_isAsBefore 18 = .ok (.iload_n 2, 1) := by decide +kernel
theorem d_M_isAsBefore_19 : decode c_M_isAsBefore 19 = .ok (.baload, 1) := by decide +kernel
theorem d_M_isAsBefore_20 : decode c_M_isAsBefore 20 = .ok (.aload_n 0, 1) := by decide +kernel
theorem d_M_isAsBefore_21 : decode c_M_isAsBefore 21 = .ok (.getfield 45, 3) := by decide +kernel
theorem d_M_isAsBefore_24 : decode c_M_isAsBefore 24 = .ok (.iload_n 2, 1) := by decide +kernel
theorem d_M_isAsBefore_25 : decode c_M_isAsBefore 25 = .ok (.baload, 1) := by decide +kernel
theorem d_M_isAsBefore_26 : decode c_M_isAsBefore 26 = .ok (.if_icmp .ne 22, 3) := by decide +kernel
theorem d_M_isAsBefore_29 : decode c_M_isAsBefore 29 = .ok (.aload_n 0, 1) := by decide +kernel
theorem d_M_isAsBefore_30 : decode c_M_isAsBefore 30 = .ok (.getfield 66, 3) := by decide +kernel
theorem d_M_isAsBefore_33 : decode c_M_isAsBefore 33 = .ok (.iload_n 2, 1) := by decide +kernel
theorem d_M_isAsBefore_34 : decode c_M_isAsBefore 34 = .ok (.iaload, 1) := by decide +kernel
theorem d_M_isAsBefore_35 : decode c_M_isAsBefore 35 = .ok (.aload_n 0, 1) := by decide +kernel
theorem d_M_isAsBefore_36 : decode c_M_isAsBefore 36 = .ok (.getfield 42, 3) := by decide +kernel
theorem d_M_isAsBefore_39 : decode c_M_isAsBefore 39 = .ok (.iload_n 2, 1) := by decide +kernel
theorem d_M_isAsBefore_40 : decode c_M_isAsBefore 40 = .ok (.iaload, 1) := by decide +kernel
theorem d_M_isAsBefore_41 : decode c_M_isAsBefore 41 = .ok (.if_icmp .ne 7, 3) := by decide +kernel
theorem d_M_isAsBefore_44 : decode c_M_isAsBefore 44 = .ok (.iconst 1, 1) := by decide +kernel
theorem d_M_isAsBefore_45 : decode c_M_isAsBefore 45 = .ok (.goto 4, 3) := by decide +kernel
theorem d_M_isAsBefore_48 : decode c_M_isAsBefore 48 = .ok (.iconst 0, 1) := by decide +kernel
theorem d_M_isAsBefore_49 : decode c_M_isAsBefore 49 = .ok (.istore_n 1, 1) := by decide +kernel
theorem d_M_isAsBefore_50 : decode c_M_isAsBefore 50 = .ok (.iconst 0, 1) := by decide +kernel
theorem d_M_isAsBefore_51 : decode c_M_isAsBefore 51 = .ok (.istore_n 3, 1) := by decide +kernel
theorem d_M_isAsBefore_52 : decode c_M_isAsBefore 52 = .ok (.iload_n 3, 1) := by decide +kernel
theorem d_M_isAsBefore_53 : decode c_M_isAsBefore 53 = .ok (.bipush 8, 2) := by decide +kernel
theorem d_M_isAsBefore_55 : decode c_M_isAsBefore 55 = .ok (.if_icmp .ge 53, 3) := by decide +kernel
theorem d_M_isAsBefore_58 : decode c_M_isAsBefore 58 = .ok (.aload_n 0, 1) := by decide +kernel
theorem d_M_isAsBefore_59 : decode c_M_isAsBefore 59 = .ok (.getfield 45, 3) := by decide +kernel
theorem d_M_isAsBefore_62 : decode c_M_isAsBefore 62 = .ok (.iload_n 2, 1) := by decide +kernel
theorem d_M_isAsBefore_63 : decode c_M_isAsBefore 63 = .ok (.baload, 1) := by decide +kernel
theorem d_M_isAsBefore_64 : decode c_M_isAsBefore 64 = .ok (.ifCond .eq 44, 3) := by decide +kernel
theorem d_M_isAsBefore_67 : decode c_M_isAsBefore 67 = .ok (.iload_n 1, 1) := by decide +kernel
theorem d_M_isAsBefore_68 : decode c_M_isAsBefore 68 = .ok (.ifCond .eq 32, 3) := by decide +kernel
theorem d_M_isAsBefore_71 : decode c_M_isAsBefore 71 = .ok (.aload_n 0, 1) := by decide +kernel
theorem d_M_isAsBefore_72 : decode c_M_isAsBefore 72 = .ok (.getfield 63, 3) := by decide +kernel
theorem d_M_isAsBefore_75 : decode c_M_isAsBefore 75 = .ok (.bipush 8, 2) := by decide +kernel
theorem d_M_isAsBefore_77 : decode c_M_isAsBefore 77 = .ok (.iload_n 2, 1) := by decide +kernel
theorem d_M_isAsBefore_78 : decode c_M_isAsBefore 78 = .ok (.imul, 1) := by decide +kernel
theorem d_M_isAsBefore_79 : decode c_M_isAsBefore 79 = .ok (.iload_n 3, 1) := by decide +kernel
theorem d_M_isAsBefore_80 : decode c_M_isAsBefore 80 = .ok (.iadd, 1) := by decide +kernel
theorem d_M_isAsBefore_81 : decode c_M_isAsBefore 81 = .ok (.iaload, 1) := by decide +kernel
theorem d_M_isAsBefore_82 : decode c_M_isAsBefore 82 = .ok (.aload_n 0, 1) := by decide +kernel
theorem d_M_isAsBefore_83 : decode c_M_isAsBefore 83 = .ok (.getfield 51, 3) := by decide +kernel
theorem d_M_isAsBefore_86 : decode c_M_isAsBefore 86 = .ok (.bipush 8, 2) := by decide +kernel
theorem d_M_isAsBefore_88 : decode c_M_isAsBefore 88 = .ok (.iload_n 2, 1) := by decide +kernel
theorem d_M_isAsBefore_89 : decode c_M_isAsBefore 89 = .ok (.imul, 1) := by decide +kernel
theorem d_M_isAsBefore_90 : decode c_M_isAsBefore 90 = .ok (.iload_n 3, 1) := by decide +kernel
theorem d_M_isAsBefore_91 : decode c_M_isAsBefore 91 = .ok (.iadd, 1) := by decide +kernel
theorem d_M_isAsBefore_92 : decode c_M_isAsBefore 92 = .ok (.iaload, 1) := by decide +kernel
theorem d_M_isAsBefore_93 : decode c_M_isAsBefore 93 = .ok (.if_icmp .ne 7, 3) := by decide +kernel
theorem d_M_isAsBefore_96 : decode c_M_isAsBefore 96 = .ok (.iconst 1, 1) := by decide +kernel
theorem d_M_isAsBefore_97 : decode c_M_isAsBefore 97 = .ok (.goto 4, 3) := by decide +kernel
theorem d_M_isAsBefore_100 : decode c_M_isAsBefore 100 = .ok (.iconst 0, 1) := by decide +kernel
theorem d_M_isAsBefore_101 : decode c_M_isAsBefore 101 = .ok (.istore_n 1, 1) := by decide +kernel
theorem d_M_isAsBefore_102 : decode c_M_isAsBefore 102 = .ok (.iinc 3 1, 3) := by decide +kernel
theorem d_M_isAsBefore_105 : decode c_M_isAsBefore 105 = .ok (.goto (-53), 3) := by decide +kernel
theorem d_M_isAsBefore_108 : decode c_M_isAsBefore 108 = .ok (.iinc 2 1, 3) := by decide +kernel
theorem d_M_isAsBefore_111 : decode c_M_isAsBefore 111 = .ok (.goto (-107), 3) := by decide +kernel
theorem d_M_isAsBefore_114 : decode c_M_isAsBefore 114 = .ok (.iload_n 1, 1) := by decide +kernel
theorem d_M_isAsBefore_115 : decode c_M_isAsBefore 115 = .ok (.ireturn, 1) := by decide +kernel
theorem d_M_state_0 : decode c_M_state 0 = .ok (.aload_n 0, 1) := by decide +kernel
theorem d_M_state_1 : decode c_M_state 1 = .ok (.aload_n 0, 1) := by decide +kernel
theorem d_M_state_2 : decode c_M_state 2 = .ok (.iload_n 1, 1) := by decide +kernel
theorem d_M_state_3 : decode c_M_state 3 = .ok (.iload_n 2, 1) := by decide +kernel
theorem d_M_state_4 : decode c_M_state 4 = .ok (.invokevirtual 119, 3) := by decide +kernel
theorem d_M_state_7 : decode c_M_state 7 = .ok (.ifCond .eq 7, 3) := by decide +kernel
theorem d_M_state_10 : decode c_M_state 10 = .ok (.iconst 1, 1) := by decide +kernel
theorem d_M_state_11 : decode c_M_state 11 = .ok (.goto 4, 3) := by decide +kernel
theorem d_M_state_14 : decode c_M_state 14 = .ok (.iconst 0, 1) := by decide +kernel
theorem d_M_state_15 : decode c_M_state 15 = .ok (.putfield 78, 3) := by decide +kernel
theorem d_M_state_18 : decode c_M_state 18 = .ok (.aload_n 0, 1) := by decide +kernel
theorem d_M_state_19 : decode c_M_state 19 = .ok (.getfield 78, 3) := by decide +kernel
theorem d_M_state_22 : decode c_M_state 22 = .ok (.ifCond .ne 16, 3) := by decide +kernel
theorem d_M_state_25 : decode c_M_state 25 = .ok (.aload_n 0, 1) := by decide +kernel
theorem d_M_state_26 : decode c_M_state 26 = .ok (.getfield 42, 3) := by decide +kernel
theorem d_M_state_29 : decode c_M_state 29 = .ok (.iconst 4, 1) := by decide +kernel
theorem d_M_state_30 : decode c_M_state 30 = .ok (.iload_n 1, 1) := by decide +kernel
theorem d_M_state_31 : decode c_M_state 31 = .ok (.imul, 1) := by decide +kernel
theorem d_M_state_32 : decode c_M_state 32 = .ok (.iload_n 2, 1) := by decide +kernel
theorem d_M_state_33 : decode c_M_state 33 = .ok (.iadd, 1) := by decide +kernel
theorem d_M_state_34 : decode c_M_state 34 = .ok (.iaload, 1) := by decide +kernel
theorem d_M_state_35 : decode c_M_state 35 = .ok (.goto 4, 3) := by decide +kernel
theorem d_M_state_38 : decode c_M_state 38 = .ok (.iconst 0, 1) := by decide +kernel
theorem d_M_state_39 : decode c_M_state 39 = .ok (.ireturn, 1) := by decide +kernel
theorem d_M_root_0 : decode c_M_root 0 = .ok (.aload_n 0, 1) := by decide +kernel
theorem d_M_root_1 : decode c_M_root 1 = .ok (.aload_n 0, 1) := by decide +kernel
theorem d_M_root_2 : decode c_M_root 2 = .ok (.iload_n 1, 1) := by decide +kernel
theorem d_M_root_3 : decode c_M_root 3 = .ok (.invokevirtual 115, 3) := by decide +kernel
theorem d_M_root_6 : decode c_M_root 6 = .ok (.ifCond .eq 7, 3) := by decide +kernel
theorem d_M_root_9 : decode c_M_root 9 = .ok (.iconst 1, 1) := by decide +kernel
theorem d_M_root_10 : decode c_M_root 10 = .ok (.goto 4, 3) := by decide +kernel
theorem d_M_root_13 : decode c_M_root 13 = .ok (.iconst 0, 1) := by decide +kernel
theorem d_M_root_14 : decode c_M_root 14 = .ok (.putfield 78, 3) := by decide +kernel
theorem d_M_root_17 : decode c_M_root 17 = .ok (.aload_n 0, 1) := by decide +kernel
theorem d_M_root_18 : decode c_M_root 18 = .ok (.getfield 78, 3) := by decide +kernel
theorem d_M_root_21 : decode c_M_root 21 = .ok (.ifCond .eq 7, 3) := by decide +kernel
theorem d_M_root_24 : decode c_M_root 24 = .ok (.iconst 0, 1) := by decide +kernel
theorem d_M_root_25 : decode c_M_root 25 = .ok (.goto 37, 3) := by decide +kernel
theorem d_M_root_28 : decode c_M_root 28 = .ok (.aload_n 0, 1) := by decide +kernel
theorem d_M_root_29 : decode c_M_root 29 = .ok (.getfield 69, 3) := by decide +kernel
theorem d_M_root_32 : decode c_M_root 32 = .ok (.iload_n 1, 1) := by decide +kernel
theorem d_M_root_33 : decode c_M_root 33 = .ok (.iaload, 1) := by decide +kernel
theorem d_M_root_34 : decode c_M_root 34 = .ok (.ifCond .ge 12, 3) := by decide +kernel
theorem d_M_root_37 : decode c_M_root 37 = .ok (.aload_n 0, 1) := by decide +kernel
theorem d_M_root_38 : decode c_M_root 38 = .ok (.getfield 7, 3) := by decide +kernel
theorem d_M_root_41 : decode c_M_root 41 = .ok (.iload_n 1, 1) := by decide +kernel
theorem d_M_root_42 : decode c_M_root 42 = .ok (.iaload, 1) := by decide +kernel
theorem d_M_root_43 : decode c_M_root 43 = .ok (.goto 19, 3) := by decide +kernel
theorem d_M_root_46 : decode c_M_root 46 = .ok (.aload_n 0, 1) := by decide +kernel
theorem d_M_root_47 : decode c_M_root 47 = .ok (.getfield 51, 3) := by decide +kernel
theorem d_M_root_50 : decode c_M_root 50 = .ok (.bipush 8, 2) := by decide +kernel
theorem d_M_root_52 : decode c_M_root 52 = .ok (.aload_n 0, 1) := by decide +kernel
theorem d_M_root_53 : decode c_M_root 53 = .ok (.getfield 69, 3) := by decide +kernel
theorem d_M_root_56 : decode c_M_root 56 = .ok (.iload_n 1, 1) := by decide +kernel
theorem d_M_root_57 : decode c_M_root 57 = .ok (.iaload, 1) := by decide +kernel
theorem d_M_root_58 : decode c_M_root 58 = .ok (.imul, 1) := by decide +kernel
theorem d_M_root_59 : decode c_M_root 59 = .ok (.iconst 3, 1) := by decide +kernel
theorem d_M_root_60 : decode c_M_root 60 = .ok (.iadd, 1) := by decide +kernel
theorem d_M_root_61 : decode c_M_root 61 = .ok (.iaload, 1) := by decide +kernel
theorem d_M_root_62 : decode c_M_root 62 = .ok (.ireturn, 1) := by decide +kernel
theorem d_M_steps_0 : decode c_M_steps 0 = .ok (.aload_n 0, 1) := by decide +kernel
theorem d_M_steps_1 : decode c_M_steps 1 = .ok (.aload_n 0, 1) := by decide +kernel
theorem d_M_steps_2 : decode c_M_steps 2 = .ok (.iload_n 1, 1) := by decide +kernel
theorem d_M_steps_3 : decode c_M_steps 3 = .ok (.invokevirtual 115, 3) := by decide +kernel
theorem d_M_steps_6 : decode c_M_steps 6 = .ok (.ifCond .eq 7, 3) := by decide +kernel
theorem d_M_steps_9 : decode c_M_steps 9 = .ok (.iconst 1, 1) := by decide +kernel
theorem d_M_steps_10 : decode c_M_steps 10 = .ok (.goto 4, 3) := by decide +kernel
theorem d_M_steps_13 : decode c_M_steps 13 = .ok (.iconst 0, 1) := by decide +kernel
theorem d_M_steps_14 : decode c_M_steps 14 = .ok (.putfield 78, 3) := by decide +kernel
theorem d_M_steps_17 : decode c_M_steps 17 = .ok (.aload_n 0, 1) := by decide +kernel
theorem d_M_steps_18 : decode c_M_steps 18 = .ok (.getfield 78, 3) := by decide +kernel
theorem d_M_steps_21 : decode c_M_steps 21 = .ok (.ifCond .eq 7, 3) := by decide +kernel
theorem d_M_steps_24 : decode c_M_steps 24 = .ok (.iconst 0, 1) := by decide +kernel
theorem d_M_steps_25 : decode c_M_steps 25 = .ok (.goto 8, 3) := by decide +kernel
theorem d_M_steps_28 : decode c_M_steps 28 = .ok (.aload_n 0, 1) := by decide +kernel
theorem d_M_steps_29 : decode c_M_steps 29 = .ok (.iload_n 1, 1) := by decide +kernel
theorem d_M_steps_30 : decode c_M_steps 30 = .ok (.invokevirtual 152, 3) := by decide +kernel
theorem d_M_steps_33 : decode c_M_steps 33 = .ok (.ireturn, 1) := by decide +kernel
theorem d_M_stepsOf_0 : decode c_M_stepsOf 0 = .ok (.aload_n 0, 1) := by decide +kernel
theorem d_M_stepsOf_1 : decode c_M_stepsOf 1 = .ok (.getfield 69, 3) := by decide +kernel
theorem d_M_stepsOf_4 : decode c_M_stepsOf 4 = .ok (.iload_n 1, 1) := by decide +kernel
theorem d_M_stepsOf_5 : decode c_M_stepsOf 5 = .ok (.iaload, 1) := by decide +kernel
theorem d_M_stepsOf_6 : decode c_M_stepsOf 6 = .ok (.ifCond .ge 7, 3) := by decide +kernel
theorem d_M_stepsOf_9 : decode c_M_stepsOf 9 = .ok (.iconst 0, 1) := by decide +kernel
theorem d_M_stepsOf_10 : decode c_M_stepsOf 10 = .ok (.goto 19, 3) := by decide +kernel
theorem d_M_stepsOf_13 : decode c_M_stepsOf 13 = .ok (.aload_n 0, 1) := by decide +kernel
theorem d_M_stepsOf_14 : decode c_M_stepsOf 14 = .ok (.getfield 51, 3) := by decide +kernel
theorem d_M_stepsOf_17 : decode c_M_stepsOf 17 = .ok (.bipush 8, 2) := by decide +kernel
theorem d_M_stepsOf_19 : decode c_M_stepsOf 19 = .ok (.aload_n 0, 1) := by decide +kernel
theorem d_M_stepsOf_20 : decode c_M_stepsOf 20 = .ok (.getfield 69, 3) := by decide +kernel
theorem d_M_stepsOf_23 : decode c_M_stepsOf 23 = .ok (.iload_n 1, 1) := by decide +kernel
theorem d_M_stepsOf_24 : decode c_M_stepsOf 24 = .ok (.iaload, 1) := by decide +kernel
theorem d_M_stepsOf_25 : decode c_M_stepsOf 25 = .ok (.imul, 1) := by decide +kernel
theorem d_M_stepsOf_26 : decode c_M_stepsOf 26 = .ok (.iconst 4, 1) := by decide +kernel
theorem d_M_stepsOf_27 : decode c_M_stepsOf 27 = .ok (.iadd, 1) := by decide +kernel
theorem d_M_stepsOf_28 : decode c_M_stepsOf 28 = .ok (.iaload, 1) := by decide +kernel
theorem d_M_stepsOf_29 : decode c_M_stepsOf 29 = .ok (.ireturn, 1) := by decide +kernel
theorem d_M_kept_0 : decode c_M_kept 0 = .ok (.aload_n 0, 1) := by decide +kernel
theorem d_M_kept_1 : decode c_M_kept 1 = .ok (.aload_n 0, 1) := by decide +kernel
theorem d_M_kept_2 : decode c_M_kept 2 = .ok (.iload_n 1, 1) := by decide +kernel
theorem d_M_kept_3 : decode c_M_kept 3 = .ok (.iload_n 2, 1) := by decide +kernel
theorem d_M_kept_4 : decode c_M_kept 4 = .ok (.invokevirtual 119, 3) := by decide +kernel
theorem d_M_kept_7 : decode c_M_kept 7 = .ok (.ifCond .eq 7, 3) := by decide +kernel
theorem d_M_kept_10 : decode c_M_kept 10 = .ok (.iconst 1, 1) := by decide +kernel
theorem d_M_kept_11 : decode c_M_kept 11 = .ok (.goto 4, 3) := by decide +kernel
theorem d_M_kept_14 : decode c_M_kept 14 = .ok (.iconst 0, 1) := by decide +kernel
theorem d_M_kept_15 : decode c_M_kept 15 = .ok (.putfield 78, 3) := by decide +kernel
theorem d_M_kept_18 : decode c_M_kept 18 = .ok (.aload_n 0, 1) := by decide +kernel
theorem d_M_kept_19 : decode c_M_kept 19 = .ok (.getfield 78, 3) := by decide +kernel
theorem d_M_kept_22 : decode c_M_kept 22 = .ok (.ifCond .eq 5, 3) := by decide +kernel
theorem d_M_kept_25 : decode c_M_kept 25 = .ok (.iconst 0, 1) := by decide +kernel
theorem d_M_kept_26 : decode c_M_kept 26 = .ok (.ireturn, 1) := by decide +kernel
theorem d_M_kept_27 : decode c_M_kept 27 = .ok (.iconst 4, 1) := by decide +kernel
theorem d_M_kept_28 : decode c_M_kept 28 = .ok (.iload_n 1, 1) := by decide +kernel
theorem d_M_kept_29 : decode c_M_kept 29 = .ok (.imul, 1) := by decide +kernel
theorem d_M_kept_30 : decode c_M_kept 30 = .ok (.iload_n 2, 1) := by decide +kernel
theorem d_M_kept_31 : decode c_M_kept 31 = .ok (.iadd, 1) := by decide +kernel
theorem d_M_kept_32 : decode c_M_kept 32 = .ok (.istore_n 3, 1) := by decide +kernel
theorem d_M_kept_33 : decode c_M_kept 33 = .ok (.aload_n 0, 1) := by decide +kernel
theorem d_M_kept_34 : decode c_M_kept 34 = .ok (.getfield 45, 3) := by decide +kernel
theorem d_M_kept_37 : decode c_M_kept 37 = .ok (.iload_n 3, 1) := by decide +kernel
theorem d_M_kept_38 : decode c_M_kept 38 = .ok (.baload, 1) := by decide +kernel
theorem d_M_kept_39 : decode c_M_kept 39 = .ok (.ifCond .eq 33, 3) := by decide +kernel
theorem d_M_kept_42 : decode c_M_kept 42 = .ok (.sipush 10000, 3) := by decide +kernel
theorem d_M_kept_45 : decode c_M_kept 45 = .ok (.aload_n 0, 1) := by decide +kernel
theorem d_M_kept_46 : decode c_M_kept 46 = .ok (.getfield 51, 3) := by decide +kernel
theorem d_M_kept_49 : decode c_M_kept 49 = .ok (.bipush 8, 2) := by decide +kernel
theorem d_M_kept_51 : decode c_M_kept 51 = .ok (.iload_n 3, 1) := by decide +kernel
theorem d_M_kept_52 : decode c_M_kept 52 = .ok (.imul, 1) := by decide +kernel
theorem d_M_kept_53 : decode c_M_kept 53 = .ok (.iconst 4, 1) := by decide +kernel
theorem d_M_kept_54 : decode c_M_kept 54 = .ok (.iadd, 1) := by decide +kernel
theorem d_M_kept_55 : decode c_M_kept 55 = .ok (.iaload, 1) := by decide +kernel
theorem d_M_kept_56 : decode c_M_kept 56 = .ok (.imul, 1) := by decide +kernel
theorem d_M_kept_57 : decode c_M_kept 57 = .ok (.aload_n 0, 1) := by decide +kernel
theorem d_M_kept_58 : decode c_M_kept 58 = .ok (.getfield 51, 3) := by decide +kernel
theorem d_M_kept_61 : decode c_M_kept 61 = .ok (.bipush 8, 2) := by decide +kernel
theorem d_M_kept_63 : decode c_M_kept 63 = .ok (.iload_n 3, 1) := by decide +kernel
theorem d_M_kept_64 : decode c_M_kept 64 = .ok (.imul, 1) := by decide +kernel
theorem d_M_kept_65 : decode c_M_kept 65 = .ok (.iconst 3, 1) := by decide +kernel
theorem d_M_kept_66 : decode c_M_kept 66 = .ok (.iadd, 1) := by decide +kernel
theorem d_M_kept_67 : decode c_M_kept 67 = .ok (.iaload, 1) := by decide +kernel
theorem d_M_kept_68 : decode c_M_kept 68 = .ok (.iadd, 1) := by decide +kernel
theorem d_M_kept_69 : decode c_M_kept 69 = .ok (.goto 4, 3) := by decide +kernel
theorem d_M_kept_72 : decode c_M_kept 72 = .ok (.iconst (-1), 1) := by decide +kernel
theorem d_M_kept_73 : decode c_M_kept 73 = .ok (.ireturn, 1) := by decide +kernel
theorem d_M_exchange_0 : decode c_M_exchange 0 = .ok (.aload_n 0, 1) := by decide +kernel
theorem d_M_exchange_1 : decode c_M_exchange 1 = .ok (.aload_n 0, 1) := by decide +kernel
theorem d_M_exchange_2 : decode c_M_exchange 2 = .ok (.iload_n 1, 1) := by decide +kernel
theorem d_M_exchange_3 : decode c_M_exchange 3 = .ok (.invokevirtual 115, 3) := by decide +kernel
theorem d_M_exchange_6 : decode c_M_exchange 6 = .ok (.ifCond .ne 21, 3) := by decide +kernel
theorem d_M_exchange_9 : decode c_M_exchange 9 = .ok (.aload_n 0, 1) := by decide +kernel
theorem d_M_exchange_10 : decode c_M_exchange 10 = .ok (.iload 4, 2) := by decide +kernel
theorem d_M_exchange_12 : decode c_M_exchange 12 = .ok (.invokevirtual 178, 3) := by decide +kernel
theorem d_M_exchange_15 : decode c_M_exchange 15 = .ok (.ifCond .ne 12, 3) := by decide +kernel
theorem d_M_exchange_18 : decode c_M_exchange 18 = .ok (.aload_n 0, 1) := by decide +kernel
theorem d_M_exchange_19 : decode c_M_exchange 19 = .ok (.iload 5, 2) := by decide +kernel
theorem d_M_exchange_21 : decode c_M_exchange 21 = .ok (.invokevirtual 178, 3) := by decide +kernel
theorem d_M_exchange_24 : decode c_M_exchange 24 = .ok (.ifCond .eq 7, 3) := by decide +kernel
theorem d_M_exchange_27 : decode c_M_exchange 27 = .ok (.iconst 1, 1) := by decide +kernel
theorem d_M_exchange_28 : decode c_M_exchange 28 = .ok (.goto 4, 3) := by decide +kernel
theorem d_M_exchange_31 : decode c_M_exchange 31 = .ok (.iconst 0, 1) := by decide +kernel
theorem d_M_exchange_32 : decode c_M_exchange 32 = .ok (.putfield 78, 3) := by decide +kernel
theorem d_M_exchange_35 : decode c_M_exchange 35 = .ok (.aload_n 0, 1) := by decide +kernel
theorem d_M_exchange_36 : decode c_M_exchange 36 = .ok (.getfield 78, 3) := by decide +kernel
theorem d_M_exchange_39 : decode c_M_exchange 39 = .ok (.ifCond .eq 5, 3) := by decide +kernel
theorem d_M_exchange_42 : decode c_M_exchange 42 = .ok (.lconst 0, 1) := by decide +kernel
theorem d_M_exchange_43 : decode c_M_exchange 43 = .ok (.lreturn, 1) := by decide +kernel
theorem d_M_exchange_44 : decode c_M_exchange 44 = .ok (.aload_n 0, 1) := by decide +kernel
theorem d_M_exchange_45 : decode c_M_exchange 45 = .ok (.aload_n 0, 1) := by decide +kernel
theorem d_M_exchange_46 : decode c_M_exchange 46 = .ok (.iload_n 1, 1) := by decide +kernel
theorem d_M_exchange_47 : decode c_M_exchange 47 = .ok (.invokevirtual 181, 3) := by decide +kernel
theorem d_M_exchange_50 : decode c_M_exchange 50 = .ok (.ifCond .eq 7, 3) := by decide +kernel
theorem d_M_exchange_53 : decode c_M_exchange 53 = .ok (.iconst 0, 1) := by decide +kernel
theorem d_M_exchange_54 : decode c_M_exchange 54 = .ok (.goto 4, 3) := by decide +kernel
theorem d_M_exchange_57 : decode c_M_exchange 57 = .ok (.iconst 2, 1) := by decide +kernel
theorem d_M_exchange_58 : decode c_M_exchange 58 = .ok (.putfield 78, 3) := by decide +kernel
theorem d_M_exchange_61 : decode c_M_exchange 61 = .ok (.aload_n 0, 1) := by decide +kernel
theorem d_M_exchange_62 : decode c_M_exchange 62 = .ok (.getfield 78, 3) := by decide +kernel
theorem d_M_exchange_65 : decode c_M_exchange 65 = .ok (.ifCond .eq 5, 3) := by decide +kernel
theorem d_M_exchange_68 : decode c_M_exchange 68 = .ok (.lconst 0, 1) := by decide +kernel
theorem d_M_exchange_69 : decode c_M_exchange 69 = .ok (.lreturn, 1) := by decide +kernel
theorem d_M_exchange_70 : decode c_M_exchange 70 = .ok (.aload_n 0, 1) := by decide +kernel
theorem d_M_exchange_71 : decode c_M_exchange 71 = .ok (.iload_n 1, 1) := by decide +kernel
theorem d_M_exchange_72 : decode c_M_exchange 72 = .ok (.lload_n 2, 1) := by decide +kernel
theorem d_M_exchange_73 : decode c_M_exchange 73 = .ok (.iload 4, 2) := by decide +kernel
theorem d_M_exchange_75 : decode c_M_exchange 75 = .ok (.iload 5, 2) := by decide +kernel
theorem d_M_exchange_77 : decode c_M_exchange 77 = .ok (.invokevirtual 184, 3) := by decide +kernel
theorem d_M_exchange_80 : decode c_M_exchange 80 = .ok (.aload_n 0, 1) := by decide +kernel
theorem d_M_exchange_81 : decode c_M_exchange 81 = .ok (.aload_n 0, 1) := by decide +kernel
theorem d_M_exchange_82 : decode c_M_exchange 82 = .ok (.getfield 155, 3) := by decide +kernel
theorem d_M_exchange_85 : decode c_M_exchange 85 = .ok (.ifCond .eq 7, 3) := by decide +kernel
theorem d_M_exchange_88 : decode c_M_exchange 88 = .ok (.iconst 3, 1) := by decide +kernel
theorem d_M_exchange_89 : decode c_M_exchange 89 = .ok (.goto 4, 3) := by decide +kernel
theorem d_M_exchange_92 : decode c_M_exchange 92 = .ok (.iconst 0, 1) := by decide +kernel
theorem d_M_exchange_93 : decode c_M_exchange 93 = .ok (.putfield 78, 3) := by decide +kernel
theorem d_M_exchange_96 : decode c_M_exchange 96 = .ok (.aload_n 0, 1) := by decide +kernel
theorem d_M_exchange_97 : decode c_M_exchange 97 = .ok (.getfield 155, 3) := by decide +kernel
theorem d_M_exchange_100 : decode c_M_exchange 100 = .ok (.ifCond .eq 7, 3) := by decide +kernel
theorem d_M_exchange_103 : decode c_M_exchange 103 = .ok (.lconst 0, 1) := by decide +kernel
theorem d_M_exchange_104 : decode c_M_exchange 104 = .ok (.goto 7, 3) := by decide +kernel
theorem d_M_exchange_107 : decode c_M_exchange 107 = .ok (.aload_n 0, 1) := by decide +kernel
theorem d_M_exchange_108 : decode c_M_exchange 108 = .ok (.getfield 170, 3) := by decide +kernel
theorem d_M_exchange_111 : decode c_M_exchange 111 = .ok (.lreturn, 1) := by decide +kernel
theorem d_M_noRest_0 : decode c_M_noRest 0 = .ok (.iload_n 1, 1) := by decide +kernel
theorem d_M_noRest_1 : decode c_M_noRest 1 = .ok (.ifCond .lt 9, 3) := by decide +kernel
theorem d_M_noRest_4 : decode c_M_noRest 4 = .ok (.iload_n 1, 1) := by decide +kernel
theorem d_M_noRest_5 : decode c_M_noRest 5 = .ok (.ldc 177, 2) := by decide +kernel
theorem d_M_noRest_7 : decode c_M_noRest 7 = .ok (.if_icmp .le 7, 3) := by decide +kernel
theorem d_M_noRest_10 : decode c_M_noRest 10 = .ok (.iconst 1, 1) := by decide +kernel
theorem d_M_noRest_11 : decode c_M_noRest 11 = .ok (.goto 4, 3) := by decide +kernel
theorem d_M_noRest_14 : decode c_M_noRest 14 = .ok (.iconst 0, 1) := by decide +kernel
theorem d_M_noRest_15 : decode c_M_noRest 15 = .ok (.ireturn, 1) := by decide +kernel
theorem d_M_canSwap_0 : decode c_M_canSwap 0 = .ok (.aload_n 0, 1) := by decide +kernel
theorem d_M_canSwap_1 : decode c_M_canSwap 1 = .ok (.getfield 69, 3) := by decide +kernel
theorem d_M_canSwap_4 : decode c_M_canSwap 4 = .ok (.iload_n 1, 1) := by decide +kernel
theorem d_M_canSwap_5 : decode c_M_canSwap 5 = .ok (.iaload, 1) := by decide +kernel
theorem d_M_canSwap_6 : decode c_M_canSwap 6 = .ok (.ifCond .lt 41, 3) := by decide +kernel
theorem d_M_canSwap_9 : decode c_M_canSwap 9 = .ok (.aload_n 0, 1) := by decide +kernel
theorem d_M_canSwap_10 : decode c_M_canSwap 10 = .ok (.getfield 42, 3) := by decide +kernel
theorem d_M_canSwap_13 : decode c_M_canSwap 13 = .ok (.aload_n 0, 1) := by decide +kernel
theorem d_M_canSwap_14 : decode c_M_canSwap 14 = .ok (.getfield 69, 3) := by decide +kernel
theorem d_M_canSwap_17 : decode c_M_canSwap 17 = .ok (.iload_n 1, 1) := by decide +kernel
theorem d_M_canSwap_18 : decode c_M_canSwap 18 = .ok (.iaload, 1) := by decide +kernel
theorem d_M_canSwap_19 : decode c_M_canSwap 19 = .ok (.iaload, 1) := by decide +kernel
theorem d_M_canSwap_20 : decode c_M_canSwap 20 = .ok (.iconst 2, 1) := by decide +kernel
theorem d_M_canSwap_21 : decode c_M_canSwap 21 = .ok (.if_icmp .ne 26, 3) := by decide +kernel
theorem d_M_canSwap_24 : decode c_M_canSwap 24 = .ok (.aload_n 0, 1) := by decide +kernel
theorem d_M_canSwap_25 : decode c_M_canSwap 25 = .ok (.getfield 35, 3) := by decide +kernel
theorem d_M_canSwap_28 : decode c_M_canSwap 28 = .ok (.aload_n 0, 1) := by decide +kernel
theorem d_M_canSwap_29 : decode c_M_canSwap 29 = .ok (.getfield 39, 3) := by decide +kernel
theorem d_M_canSwap_32 : decode c_M_canSwap 32 = .ok (.aload_n 0, 1) := by decide +kernel
theorem d_M_canSwap_33 : decode c_M_canSwap 33 = .ok (.getfield 69, 3) := by decide +kernel
theorem d_M_canSwap_36 : decode c_M_canSwap 36 = .ok (.iload_n 1, 1) := by decide +kernel
theorem d_M_canSwap_37 : decode c_M_canSwap 37 = .ok (.iaload, 1) := by decide +kernel
theorem d_M_canSwap_38 : decode c_M_canSwap 38 = .ok (.iaload, 1) := by decide +kernel
theorem d_M_canSwap_39 : decode c_M_canSwap 39 = .ok (.baload, 1) := by decide +kernel
theorem d_M_canSwap_40 : decode c_M_canSwap 40 = .ok (.ifCond .eq 7, 3) := by decide +kernel
theorem d_M_canSwap_43 : decode c_M_canSwap 43 = .ok (.iconst 1, 1) := by decide +kernel
theorem d_M_canSwap_44 : decode c_M_canSwap 44 = .ok (.goto 4, 3) := by decide +kernel
theorem d_M_canSwap_47 : decode c_M_canSwap 47 = .ok (.iconst 0, 1) := by decide +kernel
theorem d_M_canSwap_48 : decode c_M_canSwap 48 = .ok (.ireturn, 1) := by decide +kernel
theorem d_M_swap_0 : decode c_M_swap 0 = .ok (.aload_n 0, 1) := by decide +kernel
theorem d_M_swap_1 : decode c_M_swap 1 = .ok (.iconst 0, 1) := by decide +kernel
theorem d_M_swap_2 : decode c_M_swap 2 = .ok (.putfield 155, 3) := by decide +kernel
theorem d_M_swap_5 : decode c_M_swap 5 = .ok (.aload_n 0, 1) := by decide +kernel
theorem d_M_swap_6 : decode c_M_swap 6 = .ok (.aload_n 0, 1) := by decide +kernel
theorem d_M_swap_7 : decode c_M_swap 7 = .ok (.getfield 69, 3) := by decide +kernel
theorem d_M_swap_10 : decode c_M_swap 10 = .ok (.iload_n 1, 1) := by decide +kernel
theorem d_M_swap_11 : decode c_M_swap 11 = .ok (.iaload, 1) := by decide +kernel
theorem d_M_swap_12 : decode c_M_swap 12 = .ok (.invokevirtual 129, 3) := by decide +kernel
theorem d_M_swap_15 : decode c_M_swap 15 = .ok (.istore 6, 2) := by decide +kernel
theorem d_M_swap_17 : decode c_M_swap 17 = .ok (.aload_n 0, 1) := by decide +kernel
theorem d_M_swap_18 : decode c_M_swap 18 = .ok (.getfield 32, 3) := by decide +kernel
theorem d_M_swap_21 : decode c_M_swap 21 = .ok (.iload 6, 2) := by decide +kernel
theorem d_M_swap_23 : decode c_M_swap 23 = .ok (.iaload, 1) := by decide +kernel
theorem d_M_swap_24 : decode c_M_swap 24 = .ok (.istore 7, 2) := by decide +kernel
theorem d_M_swap_26 : decode c_M_swap 26 = .ok (.aload_n 0, 1) := by decide +kernel
theorem d_M_swap_27 : decode c_M_swap 27 = .ok (.getfield 32, 3) := by decide +kernel
theorem d_M_swap_30 : decode c_M_swap 30 = .ok (.iload 6, 2) := by decide +kernel
theorem d_M_swap_32 : decode c_M_swap 32 = .ok (.iconst 2, 1) := by decide +kernel
theorem d_M_swap_33 : decode c_M_swap 33 = .ok (.irem, 1) := by decide +kernel
theorem d_M_swap_34 : decode c_M_swap 34 = .ok (.ifCond .ne 10, 3) := by decide +kernel
theorem d_M_swap_37 : decode c_M_swap 37 = .ok (.iload 6, 2) := by decide +kernel
theorem d_M_swap_39 : decode c_M_swap 39 = .ok (.iconst 1, 1) := by decide +kernel
theorem d_M_swap_40 : decode c_M_swap 40 = .ok (.iadd, 1) := by decide +kernel
theorem d_M_swap_41 : decode c_M_swap 41 = .ok (.goto 7, 3) := by decide +kernel
theorem d_M_swap_44 : decode c_M_swap 44 = .ok (.iload 6, 2) := by decide +kernel
theorem d_M_swap_46 : decode c_M_swap 46 = .ok (.iconst 1, 1) := by decide +kernel
theorem d_M_swap_47 : decode c_M_swap 47 = .ok (.isub, 1) := by decide +kernel
theorem d_M_swap_48 : decode c_M_swap 48 = .ok (.iaload, 1) := by decide +kernel
theorem d_M_swap_49 : decode c_M_swap 49 = .ok (.istore 8, 2) := by decide +kernel
theorem d_M_swap_51 : decode c_M_swap 51 = .ok (.aload_n 0, 1) := by decide +kernel
theorem d_M_swap_52 : decode c_M_swap 52 = .ok (.getfield 22, 3) := by decide +kernel
theorem d_M_swap_55 : decode c_M_swap 55 = .ok (.iload_n 1, 1) := by decide +kernel
theorem d_M_swap_56 : decode c_M_swap 56 = .ok (.laload, 1) := by decide +kernel
theorem d_M_swap_57 : decode c_M_swap 57 = .ok (.lstore 9, 2) := by decide +kernel
theorem d_M_swap_59 : decode c_M_swap 59 = .ok (.aload_n 0, 1) := by decide +kernel
theorem d_M_swap_60 : decode c_M_swap 60 = .ok (.getfield 22, 3) := by decide +kernel
theorem d_M_swap_63 : decode c_M_swap 63 = .ok (.aload_n 0, 1) := by decide +kernel
theorem d_M_swap_64 : decode c_M_swap 64 = .ok (.aload_n 0, 1) := by decide +kernel
theorem d_M_swap_65 : decode c_M_swap 65 = .ok (.getfield 69, 3) := by decide +kernel
theorem d_M_swap_68 : decode c_M_swap 68 = .ok (.iload_n 1, 1) := by decide +kernel
theorem d_M_swap_69 : decode c_M_swap 69 = .ok (.iaload, 1) := by decide +kernel
theorem d_M_swap_70 : decode c_M_swap 70 = .ok (.invokevirtual 133, 3) := by decide +kernel
theorem d_M_swap_73 : decode c_M_swap 73 = .ok (.iconst 4, 1) := by decide +kernel
theorem d_M_swap_74 : decode c_M_swap 74 = .ok (.idiv, 1) := by decide +kernel
theorem d_M_swap_75 : decode c_M_swap 75 = .ok (.laload, 1) := by decide +kernel
theorem d_M_swap_76 : decode c_M_swap 76 = .ok (.lstore 11, 2) := by decide +kernel
theorem d_M_swap_78 : decode c_M_swap 78 = .ok (.aload_n 0, 1) := by decide +kernel
theorem d_M_swap_79 : decode c_M_swap 79 = .ok (.aload_n 0, 1) := by decide +kernel
theorem d_M_swap_80 : decode c_M_swap 80 = .ok (.lload_n 2, 1) := by decide +kernel
theorem d_M_swap_81 : decode c_M_swap 81 = .ok (.iload 8, 2) := by decide +kernel
theorem d_M_swap_83 : decode c_M_swap 83 = .ok (.i2l, 1) := by decide +kernel
theorem d_M_swap_84 : decode c_M_swap 84 = .ok (.invokevirtual 159, 3) := by decide +kernel
theorem d_M_swap_87 : decode c_M_swap 87 = .ok (.iload 4, 2) := by decide +kernel
theorem d_M_swap_89 : decode c_M_swap 89 = .ok (.i2l, 1) := by decide +kernel
theorem d_M_swap_90 : decode c_M_swap 90 = .ok (.invokevirtual 159, 3) := by decide +kernel
theorem d_M_swap_93 : decode c_M_swap 93 = .ok (.lstore 13, 2) := by decide +kernel
theorem d_M_swap_95 : decode c_M_swap 95 = .ok (.aload_n 0, 1) := by decide +kernel
theorem d_M_swap_96 : decode c_M_swap 96 = .ok (.lload 13, 2) := by decide +kernel
theorem d_M_swap_98 : decode c_M_swap 98 = .ok (.ldc2_w 163, 3) := by decide +kernel
theorem d_M_swap_101 : decode c_M_swap 101 = .ok (.invokevirtual 159, 3) := by decide +kernel
theorem d_M_swap_104 : decode c_M_swap 104 = .ok (.lstore 15, 2) := by decide +kernel
theorem d_M_swap_106 : decode c_M_swap 106 = .ok (.aload_n 0, 1) := by decide +kernel
theorem d_M_swap_107 : decode c_M_swap 107 = .ok (.aload_n 0, 1) := by decide +kernel
theorem d_M_swap_108 : decode c_M_swap 108 = .ok (.lload 15, 2) := by decide +kernel
theorem d_M_swap_110 : decode c_M_swap 110 = .ok (.iload 7, 2) := by decide +kernel
theorem d_M_swap_112 : decode c_M_swap 112 = .ok (.i2l, 1) := by decide +kernel
theorem d_M_swap_113 : decode c_M_swap 113 = .ok (.invokevirtual 159, 3) := by decide +kernel
theorem d_M_swap_116 : decode c_M_swap 116 = .ok (.iload 5, 2) := by decide +kernel
theorem d_M_swap_118 : decode c_M_swap 118 = .ok (.i2l, 1) := by decide +kernel
theorem d_M_swap_119 : decode c_M_swap 119 = .ok (.invokevirtual 159, 3) := by decide +kernel
theorem d_M_swap_122 : decode c_M_swap 122 = .ok (.lstore 17, 2) := by decide +kernel
theorem d_M_swap_124 : decode c_M_swap 124 = .ok (.aload_n 0, 1) := by decide +kernel
theorem d_M_swap_125 : decode c_M_swap 125 = .ok (.lload_n 2, 1) := by decide +kernel
theorem d_M_swap_126 : decode c_M_swap 126 = .ok (.lload 11, 2) := by decide +kernel
theorem d_M_swap_128 : decode c_M_swap 128 = .ok (.invokevirtual 159, 3) := by decide +kernel
theorem d_M_swap_131 : decode c_M_swap 131 = .ok (.lstore 19, 2) := by decide +kernel
theorem d_M_swap_133 : decode c_M_swap 133 = .ok (.aload_n 0, 1) := by decide +kernel
theorem d_M_swap_134 : decode c_M_swap 134 = .ok (.lload 13, 2) := by decide +kernel
theorem d_M_swap_136 : decode c_M_swap 136 = .ok (.lload 9, 2) := by decide +kernel
theorem d_M_swap_138 : decode c_M_swap 138 = .ok (.invokevirtual 159, 3) := by decide +kernel
theorem d_M_swap_141 : decode c_M_swap 141 = .ok (.lstore 21, 2) := by decide +kernel
theorem d_M_swap_143 : decode c_M_swap 143 = .ok (.aload_n 0, 1) := by decide +kernel
theorem d_M_swap_144 : decode c_M_swap 144 = .ok (.lload 15, 2) := by decide +kernel
theorem d_M_swap_146 : decode c_M_swap 146 = .ok (.lload 9, 2) := by decide +kernel
theorem d_M_swap_148 : decode c_M_swap 148 = .ok (.invokevirtual 159, 3) := by decide +kernel
theorem d_M_swap_151 : decode c_M_swap 151 = .ok (.lstore 23, 2) := by decide +kernel
theorem d_M_swap_153 : decode c_M_swap 153 = .ok (.aload_n 0, 1) := by decide +kernel
theorem d_M_swap_154 : decode c_M_swap 154 = .ok (.lload 17, 2) := by decide +kernel
theorem d_M_swap_156 : decode c_M_swap 156 = .ok (.lload 11, 2) := by decide +kernel
theorem d_M_swap_158 : decode c_M_swap 158 = .ok (.invokevirtual 159, 3) := by decide +kernel
theorem d_M_swap_161 : decode c_M_swap 161 = .ok (.lstore 25, 2) := by decide +kernel
theorem d_M_swap_163 : decode c_M_swap 163 = .ok (.aload_n 0, 1) := by decide +kernel
theorem d_M_swap_164 : decode c_M_swap 164 = .ok (.aload_n 0, 1) := by decide +kernel
theorem d_M_swap_165 : decode c_M_swap 165 = .ok (.lload 21, 2) := by decide +kernel
theorem d_M_swap_167 : decode c_M_swap 167 = .ok (.lload 19, 2) := by decide +kernel
theorem d_M_swap_169 : decode c_M_swap 169 = .ok (.invokevirtual 165, 3) := by decide +kernel
theorem d_M_swap_172 : decode c_M_swap 172 = .ok (.iload 4, 2) := by decide +kernel
theorem d_M_swap_174 : decode c_M_swap 174 = .ok (.i2l, 1) := by decide +kernel
theorem d_M_swap_175 : decode c_M_swap 175 = .ok (.invokevirtual 165, 3) := by decide +kernel
theorem d_M_swap_178 : decode c_M_swap 178 = .ok (.lstore 27, 2) := by decide +kernel
theorem d_M_swap_180 : decode c_M_swap 180 = .ok (.aload_n 0, 1) := by decide +kernel
theorem d_M_swap_181 : decode c_M_swap 181 = .ok (.aload_n 0, 1) := by decide +kernel
theorem d_M_swap_182 : decode c_M_swap 182 = .ok (.lload 25, 2) := by decide +kernel
theorem d_M_swap_184 : decode c_M_swap 184 = .ok (.lload 23, 2) := by decide +kernel
theorem d_M_swap_186 : decode c_M_swap 186 = .ok (.invokevirtual 165, 3) := by decide +kernel
theorem d_M_swap_189 : decode c_M_swap 189 = .ok (.iload 5, 2) := by decide +kernel
theorem d_M_swap_191 : decode c_M_swap 191 = .ok (.i2l, 1) := by decide +kernel
theorem d_M_swap_192 : decode c_M_swap 192 = .ok (.invokevirtual 165, 3) := by decide +kernel
theorem d_M_swap_195 : decode c_M_swap 195 = .ok (.lstore 29, 2) := by decide +kernel
theorem d_M_swap_197 : decode c_M_swap 197 = .ok (.aload_n 0, 1) := by decide +kernel
theorem d_M_swap_198 : decode c_M_swap 198 = .ok (.aload_n 0, 1) := by decide +kernel
theorem d_M_swap_199 : decode c_M_swap 199 = .ok (.lload 27, 2) := by decide +kernel
theorem d_M_swap_201 : decode c_M_swap 201 = .ok (.lload 29, 2) := by decide +kernel
theorem d_M_swap_203 : decode c_M_swap 203 = .ok (.invokevirtual 165, 3) := by decide +kernel
theorem d_M_swap_206 : decode c_M_swap 206 = .ok (.ldc2_w 168, 3) := by decide +kernel
theorem d_M_swap_209 : decode c_M_swap 209 = .ok (.ldiv, 1) := by decide +kernel
theorem d_M_swap_210 : decode c_M_swap 210 = .ok (.putfield 170, 3) := by decide +kernel
theorem d_M_swap_213 : decode c_M_swap 213 = .ok (.aload_n 0, 1) := by decide +kernel
theorem d_M_swap_214 : decode c_M_swap 214 = .ok (.aload_n 0, 1) := by decide +kernel
theorem d_M_swap_215 : decode c_M_swap 215 = .ok (.lload 27, 2) := by decide +kernel
theorem d_M_swap_217 : decode c_M_swap 217 = .ok (.lload 29, 2) := by decide +kernel
theorem d_M_swap_219 : decode c_M_swap 219 = .ok (.invokevirtual 159, 3) := by decide +kernel
theorem d_M_swap_222 : decode c_M_swap 222 = .ok (.ldc2_w 168, 3) := by decide +kernel
theorem d_M_swap_225 : decode c_M_swap 225 = .ok (.ldiv, 1) := by decide +kernel
theorem d_M_swap_226 : decode c_M_swap 226 = .ok (.putfield 174, 3) := by decide +kernel
theorem d_M_swap_229 : decode c_M_swap 229 = .ok (.aload_n 0, 1) := by decide +kernel
theorem d_M_swap_230 : decode c_M_swap 230 = .ok (.lload 9, 2) := by decide +kernel
theorem d_M_swap_232 : decode c_M_swap 232 = .ok (.aload_n 0, 1) := by decide +kernel
theorem d_M_swap_233 : decode c_M_swap 233 = .ok (.getfield 170, 3) := by decide +kernel
theorem d_M_swap_236 : decode c_M_swap 236 = .ok (.invokevirtual 165, 3) := by decide +kernel
theorem d_M_swap_239 : decode c_M_swap 239 = .ok (.lstore 31, 2) := by decide +kernel
theorem d_M_swap_241 : decode c_M_swap 241 = .ok (.aload_n 0, 1) := by decide +kernel
theorem d_M_swap_242 : decode c_M_swap 242 = .ok (.getfield 155, 3) := by decide +kernel
theorem d_M_swap_245 : decode c_M_swap 245 = .ok (.ifCond .ne 21, 3) := by decide +kernel
theorem d_M_swap_248 : decode c_M_swap 248 = .ok (.aload_n 0, 1) := by decide +kernel
theorem d_M_swap_249 : decode c_M_swap 249 = .ok (.getfield 22, 3) := by decide +kernel
theorem d_M_swap_252 : decode c_M_swap 252 = .ok (.iload_n 1, 1) := by decide +kernel
theorem d_M_swap_253 : decode c_M_swap 253 = .ok (.lload 31, 2) := by decide +kernel
theorem d_M_swap_255 : decode c_M_swap 255 = .ok (.lastore, 1) := by decide +kernel
theorem d_M_swap_256 : decode c_M_swap 256 = .ok (.aload_n 0, 1) := by decide +kernel
theorem d_M_swap_257 : decode c_M_swap 257 = .ok (.getfield 26, 3) := by decide +kernel
theorem d_M_swap_260 : decode c_M_swap 260 = .ok (.iload_n 1, 1) := by decide +kernel
theorem d_M_swap_261 : decode c_M_swap 261 = .ok (.aload_n 0, 1) := by decide +kernel
theorem d_M_swap_262 : decode c_M_swap 262 = .ok (.getfield 174, 3) := by decide +kernel
theorem d_M_swap_265 : decode c_M_swap 265 = .ok (.lastore, 1) := by decide +kernel
theorem d_M_swap_266 : decode c_M_swap 266 = .ok (.return_, 1) := by decide +kernel
theorem d_M_sum_0 : decode c_M_sum 0 = .ok (.lload_n 1, 1) := by decide +kernel
theorem d_M_sum_1 : decode c_M_sum 1 = .ok (.lload_n 3, 1) := by decide +kernel
theorem d_M_sum_2 : decode c_M_sum 2 = .ok (.ladd, 1) := by decide +kernel
theorem d_M_sum_3 : decode c_M_sum 3 = .ok (.lstore 5, 2) := by decide +kernel
theorem d_M_sum_5 : decode c_M_sum 5 = .ok (.aload_n 0, 1) := by decide +kernel
theorem d_M_sum_6 : decode c_M_sum 6 = .ok (.aload_n 0, 1) := by decide +kernel
theorem d_M_sum_7 : decode c_M_sum 7 = .ok (.getfield 155, 3) := by decide +kernel
theorem d_M_sum_10 : decode c_M_sum 10 = .ok (.ifCond .ne 54, 3) := by decide +kernel
theorem d_M_sum_13 : decode c_M_sum 13 = .ok (.lload_n 1, 1) := by decide +kernel
theorem d_M_sum_14 : decode c_M_sum 14 = .ok (.lconst 0, 1) := by decide +kernel
theorem d_M_sum_15 : decode c_M_sum 15 = .ok (.lcmp, 1) := by decide +kernel
theorem d_M_sum_16 : decode c_M_sum 16 = .ok (.ifCond .ge 7, 3) := by decide +kernel
theorem d_M_sum_19 : decode c_M_sum 19 = .ok (.iconst 1, 1) := by decide +kernel
theorem d_M_sum_20 : decode c_M_sum 20 = .ok (.goto 4, 3) := by decide +kernel
theorem d_M_sum_23 : decode c_M_sum 23 = .ok (.iconst 0, 1) := by decide +kernel
theorem d_M_sum_24 : decode c_M_sum 24 = .ok (.lload_n 3, 1) := by decide +kernel
theorem d_M_sum_25 : decode c_M_sum 25 = .ok (.lconst 0, 1) := by decide +kernel
theorem d_M_sum_26 : decode c_M_sum 26 = .ok (.lcmp, 1) := by decide +kernel
theorem d_M_sum_27 : decode c_M_sum 27 = .ok (.ifCond .ge 7, 3) := by decide +kernel
theorem d_M_sum_30 : decode c_M_sum 30 = .ok (.iconst 1, 1) := by decide +kernel
theorem d_M_sum_31 : decode c_M_sum 31 = .ok (.goto 4, 3) := by decide +kernel
theorem d_M_sum_34 : decode c_M_sum 34 = .ok (.iconst 0, 1) := by decide +kernel
theorem d_M_sum_35 : decode c_M_sum 35 = .ok (.if_icmp .ne 33, 3) := by decide +kernel
theorem d_M_sum_38 : decode c_M_sum 38 = .ok (.lload 5, 2) := by decide +kernel
theorem d_M_sum_40 : decode c_M_sum 40 = .ok (.lconst 0, 1) := by decide +kernel
theorem d_M_sum_41 : decode c_M_sum 41 = .ok (.lcmp, 1) := by decide +kernel
theorem d_M_sum_42 : decode c_M_sum 42 = .ok (.ifCond .ge 7, 3) := by decide +kernel
theorem d_M_sum_45 : decode c_M_sum 45 = .ok (.iconst 1, 1) := by decide +kernel
theorem d_M_sum_46 : decode c_M_sum 46 = .ok (.goto 4, 3) := by decide +kernel
theorem d_M_sum_49 : decode c_M_sum 49 = .ok (.iconst 0, 1) := by decide +kernel
theorem d_M_sum_50 : decode c_M_sum 50 = .ok (.lload_n 1, 1) := by decide +kernel
theorem d_M_sum_51 : decode c_M_sum 51 = .ok (.lconst 0, 1) := by decide +kernel
theorem d_M_sum_52 : decode c_M_sum 52 = .ok (.lcmp, 1) := by decide +kernel
theorem d_M_sum_53 : decode c_M_sum 53 = .ok (.ifCond .ge 7, 3) := by decide +kernel
theorem d_M_sum_56 : decode c_M_sum 56 = .ok (.iconst 1, 1) := by decide +kernel
theorem d_M_sum_57 : decode c_M_sum 57 = .ok (.goto 4, 3) := by decide +kernel
theorem d_M_sum_60 : decode c_M_sum 60 = .ok (.iconst 0, 1) := by decide +kernel
theorem d_M_sum_61 : decode c_M_sum 61 = .ok (.if_icmp .eq 7, 3) := by decide +kernel
theorem d_M_sum_64 : decode c_M_sum 64 = .ok (.iconst 1, 1) := by decide +kernel
theorem d_M_sum_65 : decode c_M_sum 65 = .ok (.goto 4, 3) := by decide +kernel
theorem d_M_sum_68 : decode c_M_sum 68 = .ok (.iconst 0, 1) := by decide +kernel
theorem d_M_sum_69 : decode c_M_sum 69 = .ok (.putfield 155, 3) := by decide +kernel
theorem d_M_sum_72 : decode c_M_sum 72 = .ok (.lload 5, 2) := by decide +kernel
theorem d_M_sum_74 : decode c_M_sum 74 = .ok (.lreturn, 1) := by decide +kernel
theorem d_M_difference_0 : decode c_M_difference 0 = .ok (.lload_n 1, 1) := by decide +kernel
theorem d_M_difference_1 : decode c_M_difference 1 = .ok (.lload_n 3, 1) := by decide +kernel
theorem d_M_difference_2 : decode c_M_difference 2 = .ok (.lsub, 1) := by decide +kernel
theorem d_M_difference_3 : decode c_M_difference 3 = .ok (.lstore 5, 2) := by decide +kernel
theorem d_M_difference_5 : decode c_M_difference 5 = .ok (.aload_n 0, 1) := by decide +kernel
theorem d_M_difference_6 : decode c_M_difference 6 = .ok (.aload_n 0, 1) := by decide +kernel
theorem d_M_difference_7 : decode c_M_difference 7 = .ok (.getfield 155, 3) := by decide +kernel
theorem d_M_difference_10 : decode c_M_difference 10 = .ok (.ifCond .ne 54, 3) := by decide +kernel
theorem d_M_difference_13 : decode c_M_difference 13 = .ok (.lload_n 1, 1) := by decide +kernel
theorem d_M_difference_14 : decode c_M_difference 14 = .ok (.lconst 0, 1) := by decide +kernel
theorem d_M_difference_15 : decode c_M_difference 15 = .ok (.lcmp, 1) := by decide +kernel
theorem d_M_difference_16 : decode c_M_difference 16 = .ok (.ifCond .ge 7, 3) := by decide +kernel
theorem d_M_difference_19 : decode c_M_difference 19 = .ok (.iconst 1, 1) := by decide +kernel
theorem d_M_difference_20 : decode c_M_difference 20 = .ok (.goto 4, 3) := by decide +kernel
theorem d_M_difference_23 : decode c_M_difference 23 = .ok (.iconst 0, 1) := by decide +kernel
theorem d_M_difference_24 : decode c_M_difference 24 = .ok (.lload_n 3, 1) := by decide +kernel
theorem d_M_difference_25 : decode c_M_difference 25 = .ok (.lconst 0, 1) := by decide +kernel
theorem d_M_difference_26 : decode c_M_difference 26 = .ok (.lcmp, 1) := by decide +kernel
theorem d_M_difference_27 : decode c_M_difference 27 = .ok (.ifCond .ge 7, 3) := by decide +kernel
theorem d_M_difference_30 : decode c_M_difference 30 = .ok (.iconst 1, 1) := by decide +kernel
theorem d_M_difference_31 : decode c_M_difference 31 = .ok (.goto 4, 3) := by decide +kernel
theorem d_M_difference_34 : decode c_M_difference 34 = .ok (.iconst 0, 1) := by decide +kernel
theorem d_M_difference_35 : decode c_M_difference 35 = .ok (.if_icmp .eq 33, 3) := by decide +kernel
theorem d_M_difference_38 : decode c_M_difference 38 = .ok (.lload 5, 2) := by decide +kernel
theorem d_M_difference_40 : decode c_M_difference 40 = .ok (.lconst 0, 1) := by decide +kernel
theorem d_M_difference_41 : decode c_M_difference 41 = .ok (.lcmp, 1) := by decide +kernel
theorem d_M_difference_42 : decode c_M_difference 42 = .ok (.ifCond .ge 7, 3) := by decide +kernel
theorem d_M_difference_45 : decode c_M_difference 45 = .ok (.iconst 1, 1) := by decide +kernel
theorem d_M_difference_46 : decode c_M_difference 46 = .ok (.goto 4, 3) := by decide +kernel
theorem d_M_difference_49 : decode c_M_difference 49 = .ok (.iconst 0, 1) := by decide +kernel
theorem d_M_difference_50 : decode c_M_difference 50 = .ok (.lload_n 1, 1) := by decide +kernel
theorem d_M_difference_51 : decode c_M_difference 51 = .ok (.lconst 0, 1) := by decide +kernel
theorem d_M_difference_52 : decode c_M_difference 52 = .ok (.lcmp, 1) := by decide +kernel
theorem d_M_difference_53 : decode c_M_difference 53 = .ok (.ifCond .ge 7, 3) := by decide +kernel
theorem d_M_difference_56 : decode c_M_difference 56 = .ok (.iconst 1, 1) := by decide +kernel
theorem d_M_difference_57 : decode c_M_difference 57 = .ok (.goto 4, 3) := by decide +kernel
theorem d_M_difference_60 : decode c_M_difference 60 = .ok (.iconst 0, 1) := by decide +kernel
theorem d_M_difference_61 : decode c_M_difference 61 = .ok (.if_icmp .eq 7, 3) := by decide +kernel
theorem d_M_difference_64 : decode c_M_difference 64 = .ok (.iconst 1, 1) := by decide +kernel
theorem d_M_difference_65 : decode c_M_difference 65 = .ok (.goto 4, 3) := by decide +kernel
theorem d_M_difference_68 : decode c_M_difference 68 = .ok (.iconst 0, 1) := by decide +kernel
theorem d_M_difference_69 : decode c_M_difference 69 = .ok (.putfield 155, 3) := by decide +kernel
theorem d_M_difference_72 : decode c_M_difference 72 = .ok (.lload 5, 2) := by decide +kernel
theorem d_M_difference_74 : decode c_M_difference 74 = .ok (.lreturn, 1) := by decide +kernel
theorem d_M_delay_0 : decode c_M_delay 0 = .ok (.aload_n 0, 1) := by decide +kernel
theorem d_M_delay_1 : decode c_M_delay 1 = .ok (.aload_n 0, 1) := by decide +kernel
theorem d_M_delay_2 : decode c_M_delay 2 = .ok (.iload_n 1, 1) := by decide +kernel
theorem d_M_delay_3 : decode c_M_delay 3 = .ok (.invokevirtual 115, 3) := by decide +kernel
theorem d_M_delay_6 : decode c_M_delay 6 = .ok (.ifCond .eq 7, 3) := by decide +kernel
theorem d_M_delay_9 : decode c_M_delay 9 = .ok (.iconst 1, 1) := by decide +kernel
theorem d_M_delay_10 : decode c_M_delay 10 = .ok (.goto 4, 3) := by decide +kernel
theorem d_M_delay_13 : decode c_M_delay 13 = .ok (.iconst 0, 1) := by decide +kernel
theorem d_M_delay_14 : decode c_M_delay 14 = .ok (.putfield 78, 3) := by decide +kernel
theorem d_M_delay_17 : decode c_M_delay 17 = .ok (.aload_n 0, 1) := by decide +kernel
theorem d_M_delay_18 : decode c_M_delay 18 = .ok (.getfield 78, 3) := by decide +kernel
theorem d_M_delay_21 : decode c_M_delay 21 = .ok (.ifCond .ne 12, 3) := by decide +kernel
theorem d_M_delay_24 : decode c_M_delay 24 = .ok (.aload_n 0, 1) := by decide +kernel
theorem d_M_delay_25 : decode c_M_delay 25 = .ok (.getfield 26, 3) := by decide +kernel
theorem d_M_delay_28 : decode c_M_delay 28 = .ok (.iload_n 1, 1) := by decide +kernel
theorem d_M_delay_29 : decode c_M_delay 29 = .ok (.laload, 1) := by decide +kernel
theorem d_M_delay_30 : decode c_M_delay 30 = .ok (.goto 4, 3) := by decide +kernel
theorem d_M_delay_33 : decode c_M_delay 33 = .ok (.lconst 0, 1) := by decide +kernel
theorem d_M_delay_34 : decode c_M_delay 34 = .ok (.lreturn, 1) := by decide +kernel
theorem d_M_offset_0 : decode c_M_offset 0 = .ok (.aload_n 0, 1) := by decide +kernel
theorem d_M_offset_1 : decode c_M_offset 1 = .ok (.aload_n 0, 1) := by decide +kernel
theorem d_M_offset_2 : decode c_M_offset 2 = .ok (.iload_n 1, 1) := by decide +kernel
theorem d_M_offset_3 : decode c_M_offset 3 = .ok (.invokevirtual 115, 3) := by decide +kernel
theorem d_M_offset_6 : decode c_M_offset 6 = .ok (.ifCond .eq 7, 3) := by decide +kernel
theorem d_M_offset_9 : decode c_M_offset 9 = .ok (.iconst 1, 1) := by decide +kernel
theorem d_M_offset_10 : decode c_M_offset 10 = .ok (.goto 4, 3) := by decide +kernel
theorem d_M_offset_13 : decode c_M_offset 13 = .ok (.iconst 0, 1) := by decide +kernel
theorem d_M_offset_14 : decode c_M_offset 14 = .ok (.putfield 78, 3) := by decide +kernel
theorem d_M_offset_17 : decode c_M_offset 17 = .ok (.aload_n 0, 1) := by decide +kernel
theorem d_M_offset_18 : decode c_M_offset 18 = .ok (.getfield 78, 3) := by decide +kernel
theorem d_M_offset_21 : decode c_M_offset 21 = .ok (.ifCond .ne 12, 3) := by decide +kernel
theorem d_M_offset_24 : decode c_M_offset 24 = .ok (.aload_n 0, 1) := by decide +kernel
theorem d_M_offset_25 : decode c_M_offset 25 = .ok (.getfield 22, 3) := by decide +kernel
theorem d_M_offset_28 : decode c_M_offset 28 = .ok (.iload_n 1, 1) := by decide +kernel
theorem d_M_offset_29 : decode c_M_offset 29 = .ok (.laload, 1) := by decide +kernel
theorem d_M_offset_30 : decode c_M_offset 30 = .ok (.goto 4, 3) := by decide +kernel
theorem d_M_offset_33 : decode c_M_offset 33 = .ok (.lconst 0, 1) := by decide +kernel
theorem d_M_offset_34 : decode c_M_offset 34 = .ok (.lreturn, 1) := by decide +kernel
theorem d_M_discipline_0 : decode c_M_discipline 0 = .ok (.aload_n 0, 1) := by decide +kernel
theorem d_M_discipline_1 : decode c_M_discipline 1 = .ok (.iconst 0, 1) := by decide +kernel
theorem d_M_discipline_2 : decode c_M_discipline 2 = .ok (.putfield 78, 3) := by decide +kernel
theorem d_M_discipline_5 : decode c_M_discipline 5 = .ok (.iconst 0, 1) := by decide +kernel
theorem d_M_discipline_6 : decode c_M_discipline 6 = .ok (.istore_n 3, 1) := by decide +kernel
theorem d_M_discipline_7 : decode c_M_discipline 7 = .ok (.iconst 0, 1) := by decide +kernel
theorem d_M_discipline_8 : decode c_M_discipline 8 = .ok (.istore 4, 2) := by decide +kernel
theorem d_M_discipline_10 : decode c_M_discipline 10 = .ok (.iload 4, 2) := by decide +kernel
theorem d_M_discipline_12 : decode c_M_discipline 12 = .ok (.bipush 16, 2) := by decide +kernel
theorem d_M_discipline_14 : decode c_M_discipline 14 = .ok (.if_icmp .ge 71, 3) := by decide +kernel
theorem d_M_discipline_17 : decode c_M_discipline 17 = .ok (.iconst 0, 1) := by decide +kernel
theorem d_M_discipline_18 : decode c_M_discipline 18 = .ok (.istore 5, 2) := by decide +kernel
theorem d_M_discipline_20 : decode c_M_discipline 20 = .ok (.iload 5, 2) := by decide +kernel
theorem d_M_discipline_22 : decode c_M_discipline 22 = .ok (.aload_n 0, 1) := by decide +kernel
theorem d_M_discipline_23 : decode c_M_discipline 23 = .ok (.getfield 100, 3) := by decide +kernel
theorem d_M_discipline_26 : decode c_M_discipline 26 = .ok (.if_icmp .ge 53, 3) := by decide +kernel
theorem d_M_discipline_29 : decode c_M_discipline 29 = .ok (.aload_n 0, 1) := by decide +kernel
theorem d_M_discipline_30 : decode c_M_discipline 30 = .ok (.iload 5, 2) := by decide +kernel
theorem d_M_discipline_32 : decode c_M_discipline 32 = .ok (.invokevirtual 181, 3) := by decide +kernel
theorem d_M_discipline_35 : decode c_M_discipline 35 = .ok (.ifCond .eq 38, 3) := by decide +kernel
theorem d_M_discipline_38 : decode c_M_discipline 38 = .ok (.aload_n 0, 1) := by decide +kernel
theorem d_M_discipline_39 : decode c_M_discipline 39 = .ok (.iload 5, 2) := by decide +kernel
theorem d_M_discipline_41 : decode c_M_discipline 41 = .ok (.invokevirtual 152, 3) := by decide +kernel
theorem d_M_discipline_44 : decode c_M_discipline 44 = .ok (.iload 4, 2) := by decide +kernel
theorem d_M_discipline_46 : decode c_M_discipline 46 = .ok (.if_icmp .ne 27, 3) := by decide +kernel
theorem d_M_discipline_49 : decode c_M_discipline 49 = .ok (.aload_n 0, 1) := by decide +kernel
theorem d_M_discipline_50 : decode c_M_discipline 50 = .ok (.iload 5, 2) := by decide +kernel
theorem d_M_discipline_52 : decode c_M_discipline 52 = .ok (.lload_n 1, 1) := by decide +kernel
theorem d_M_discipline_53 : decode c_M_discipline 53 = .ok (.iconst 0, 1) := by decide +kernel
theorem d_M_discipline_54 : decode c_M_discipline 54 = .ok (.iconst 0, 1) := by decide +kernel
theorem d_M_discipline_55 : decode c_M_discipline 55 = .ok (.invokevirtual 184, 3) := by decide +kernel
theorem d_M_discipline_58 : decode c_M_discipline 58 = .ok (.iload_n 3, 1) := by decide +kernel
theorem d_M_discipline_59 : decode c_M_discipline 59 = .ok (.aload_n 0, 1) := by decide +kernel
theorem d_M_discipline_60 : decode c_M_discipline 60 = .ok (.getfield 155, 3) := by decide +kernel
theorem d_M_discipline_63 : decode c_M_discipline 63 = .ok (.ifCond .eq 7, 3) := by decide +kernel
theorem d_M_discipline_66 : decode c_M_discipline 66 = .ok (.iconst 0, 1) := by decide +kernel
theorem d_M_discipline_67 : decode c_M_discipline 67 = .ok (.goto 4, 3) := by decide +kernel
theorem d_M_discipline_70 : decode c_M_discipline 70 = .ok (.iconst 1, 1) := by decide +kernel
theorem d_M_discipline_71 : decode c_M_discipline 71 = .ok (.iadd, 1) := by decide +kernel
theorem d_M_discipline_72 : decode c_M_discipline 72 = .ok (.istore_n 3, 1) := by decide +kernel
theorem d_M_discipline_73 : decode c_M_discipline 73 = .ok (.iinc 5 1, 3) := by decide +kernel
theorem d_M_discipline_76 : decode c_M_discipline 76 = .ok (.goto (-56), 3) := by decide +kernel
theorem d_M_discipline_79 : decode c_M_discipline 79 = .ok (.iinc 4 1, 3) := by decide +kernel
theorem d_M_discipline_82 : decode c_M_discipline 82 = .ok (.goto (-72), 3) := by decide +kernel
theorem d_M_discipline_85 : decode c_M_discipline 85 = .ok (.iload_n 3, 1) := by decide +kernel
theorem d_M_discipline_86 : decode c_M_discipline 86 = .ok (.ireturn, 1) := by decide +kernel
