noncomputable def T257 : mT := (11, yX11_relieve, cX11_relieve, 6, (some .int))
set_option maxRecDepth 10000 in
theorem TE257 : sy_m[257]? = some T257 := rfl
theorem B257_0_4 : s_dk T257.2.2.1 0 [.iload_n 1, .iconst 1, .bipush 120] 4 = true := by decide +kernel
theorem D257_4 : decode T257.2.2.1 4 = .ok (.invokestatic 123, 3) := by decide +kernel
theorem D257_7 : decode T257.2.2.1 7 = .ok (.ifCond .ne 5, 3) := by decide +kernel
theorem B257_12_13 : s_dk T257.2.2.1 12 [.aload_n 0] 13 = true := by decide +kernel
theorem gf_11_102_77 : s_gf 11 102 77 = some (52, 108) := by decide +kernel
theorem D257_13 : decode T257.2.2.1 13 = .ok (.getfield 102, 3) := by decide +kernel
theorem B257_16_18 : s_dk T257.2.2.1 16 [.iload_n 1, .iconst 0] 18 = true := by decide +kernel
theorem D257_18 : decode T257.2.2.1 18 = .ok (.iastore, 1) := by decide +kernel
theorem B257_19_23 : s_dk T257.2.2.1 19 [.iload_n 1, .iconst 1, .isub, .istore_n 2] 23 = true := by decide +kernel
theorem B257_10_11 : s_dk T257.2.2.1 10 [.iconst (-1)] 11 = true := by decide +kernel
theorem D257_11 : decode T257.2.2.1 11 = .ok (.ireturn, 1) := by decide +kernel
theorem B257_23_24 : s_dk T257.2.2.1 23 [.iload_n 2] 24 = true := by decide +kernel
theorem D257_24 : decode T257.2.2.1 24 = .ok (.ifCond .lt 129, 3) := by decide +kernel
theorem B257_27_30 : s_dk T257.2.2.1 27 [.iconst 0, .istore_n 3, .aload_n 0] 30 = true := by decide +kernel
theorem gf_11_105_77 : s_gf 11 105 77 = some (53, 109) := by decide +kernel
theorem D257_30 : decode T257.2.2.1 30 = .ok (.getfield 105, 3) := by decide +kernel
theorem B257_33_35 : s_dk T257.2.2.1 33 [.iload_n 2, .iconst 0] 35 = true := by decide +kernel
theorem D257_35 : decode T257.2.2.1 35 = .ok (.iastore, 1) := by decide +kernel
theorem B257_36_39 : s_dk T257.2.2.1 36 [.iconst 1, .istore 4] 39 = true := by decide +kernel
theorem B257_39_43 : s_dk T257.2.2.1 39 [.iload 4, .bipush 60] 43 = true := by decide +kernel
theorem D257_43 : decode T257.2.2.1 43 = .ok (.if_icmp .gt 104, 3) := by decide +kernel
theorem B257_46_51 : s_dk T257.2.2.1 46 [.iload_n 2, .iload 4, .iadd, .iload_n 1] 51 = true := by decide +kernel
theorem D257_51 : decode T257.2.2.1 51 = .ok (.if_icmp .gt 96, 3) := by decide +kernel
theorem B257_147_150 : s_dk T257.2.2.1 147 [.iinc 2 (-1)] 150 = true := by decide +kernel
theorem D257_150 : decode T257.2.2.1 150 = .ok (.goto (-127), 3) := by decide +kernel
theorem B257_54_56 : s_dk T257.2.2.1 54 [.iload_n 3, .aload_n 0] 56 = true := by decide +kernel
theorem D257_56 : decode T257.2.2.1 56 = .ok (.getfield 13, 3) := by decide +kernel
theorem B257_59_67 : s_dk T257.2.2.1 59 [.sipush 409, .iload 4, .iadd, .iconst 1, .isub] 67 = true := by decide +kernel
theorem D257_67 : decode T257.2.2.1 67 = .ok (.iaload, 1) := by decide +kernel
theorem B257_68_76 : s_dk T257.2.2.1 68 [.iadd, .istore_n 3, .iload_n 3, .iload_n 2, .iload 4, .iadd, .iload_n 1] 76 = true := by decide +kernel
theorem D257_76 : decode T257.2.2.1 76 = .ok (.if_icmp .ge 22, 3) := by decide +kernel
theorem B257_98_103 : s_dk T257.2.2.1 98 [.iconst 0, .iadd, .istore 5, .aload_n 0] 103 = true := by decide +kernel
theorem D257_103 : decode T257.2.2.1 103 = .ok (.getfield 105, 3) := by decide +kernel
theorem B257_106_107 : s_dk T257.2.2.1 106 [.iload_n 2] 107 = true := by decide +kernel
theorem D257_107 : decode T257.2.2.1 107 = .ok (.iaload, 1) := by decide +kernel
theorem D257_108 : decode T257.2.2.1 108 = .ok (.ifCond .le 17, 3) := by decide +kernel
theorem B257_125_126 : s_dk T257.2.2.1 125 [.aload_n 0] 126 = true := by decide +kernel
theorem D257_126 : decode T257.2.2.1 126 = .ok (.getfield 102, 3) := by decide +kernel
theorem B257_129_132 : s_dk T257.2.2.1 129 [.iload_n 2, .iload 5] 132 = true := by decide +kernel
theorem D257_132 : decode T257.2.2.1 132 = .ok (.iastore, 1) := by decide +kernel
theorem B257_133_134 : s_dk T257.2.2.1 133 [.aload_n 0] 134 = true := by decide +kernel
theorem D257_134 : decode T257.2.2.1 134 = .ok (.getfield 105, 3) := by decide +kernel
theorem B257_137_140 : s_dk T257.2.2.1 137 [.iload_n 2, .iload 4] 140 = true := by decide +kernel
theorem D257_140 : decode T257.2.2.1 140 = .ok (.iastore, 1) := by decide +kernel
theorem B257_141_144 : s_dk T257.2.2.1 141 [.iinc 4 1] 144 = true := by decide +kernel
theorem D257_144 : decode T257.2.2.1 144 = .ok (.goto (-105), 3) := by decide +kernel
theorem B257_111_114 : s_dk T257.2.2.1 111 [.iload 5, .aload_n 0] 114 = true := by decide +kernel
theorem D257_114 : decode T257.2.2.1 114 = .ok (.getfield 102, 3) := by decide +kernel
theorem B257_117_118 : s_dk T257.2.2.1 117 [.iload_n 2] 118 = true := by decide +kernel
theorem D257_118 : decode T257.2.2.1 118 = .ok (.iaload, 1) := by decide +kernel
theorem D257_119 : decode T257.2.2.1 119 = .ok (.if_icmp .le 6, 3) := by decide +kernel
theorem D257_122 : decode T257.2.2.1 122 = .ok (.goto 19, 3) := by decide +kernel
theorem B257_79_82 : s_dk T257.2.2.1 79 [.aload_n 0, .bipush 8] 82 = true := by decide +kernel
theorem D257_82 : decode T257.2.2.1 82 = .ok (.invokevirtual 141, 3) := by decide +kernel
theorem B257_85_86 : s_dk T257.2.2.1 85 [.aload_n 0] 86 = true := by decide +kernel
theorem D257_86 : decode T257.2.2.1 86 = .ok (.getfield 102, 3) := by decide +kernel
theorem B257_89_93 : s_dk T257.2.2.1 89 [.iload_n 2, .iload 4, .iadd] 93 = true := by decide +kernel
theorem D257_93 : decode T257.2.2.1 93 = .ok (.iaload, 1) := by decide +kernel
theorem B257_94_95 : s_dk T257.2.2.1 94 [.iadd] 95 = true := by decide +kernel
theorem D257_95 : decode T257.2.2.1 95 = .ok (.goto 4, 3) := by decide +kernel
theorem B257_99_103 : s_dk T257.2.2.1 99 [.iadd, .istore 5, .aload_n 0] 103 = true := by decide +kernel
theorem B257_153_155 : s_dk T257.2.2.1 153 [.aload_n 0, .iconst 0] 155 = true := by decide +kernel
theorem pf_11_111_77 : s_pf 11 111 77 = some (55, 1) := by decide +kernel
theorem D257_155 : decode T257.2.2.1 155 = .ok (.putfield 111, 3) := by decide +kernel
theorem B257_158_159 : s_dk T257.2.2.1 158 [.aload_n 0] 159 = true := by decide +kernel
theorem D257_159 : decode T257.2.2.1 159 = .ok (.getfield 105, 3) := by decide +kernel
theorem B257_162_163 : s_dk T257.2.2.1 162 [.iconst 0] 163 = true := by decide +kernel
theorem D257_163 : decode T257.2.2.1 163 = .ok (.iaload, 1) := by decide +kernel
theorem B257_164_165 : s_dk T257.2.2.1 164 [.istore_n 2] 165 = true := by decide +kernel
theorem B257_165_167 : s_dk T257.2.2.1 165 [.iload_n 2, .iload_n 1] 167 = true := by decide +kernel
theorem D257_167 : decode T257.2.2.1 167 = .ok (.if_icmp .ge 35, 3) := by decide +kernel
theorem B257_202_203 : s_dk T257.2.2.1 202 [.aload_n 0] 203 = true := by decide +kernel
theorem D257_203 : decode T257.2.2.1 203 = .ok (.getfield 102, 3) := by decide +kernel
theorem B257_206_207 : s_dk T257.2.2.1 206 [.iconst 0] 207 = true := by decide +kernel
theorem D257_207 : decode T257.2.2.1 207 = .ok (.iaload, 1) := by decide +kernel
theorem D257_208 : decode T257.2.2.1 208 = .ok (.ireturn, 1) := by decide +kernel
theorem B257_170_171 : s_dk T257.2.2.1 170 [.aload_n 0] 171 = true := by decide +kernel
theorem D257_171 : decode T257.2.2.1 171 = .ok (.getfield 108, 3) := by decide +kernel
theorem B257_174_175 : s_dk T257.2.2.1 174 [.aload_n 0] 175 = true := by decide +kernel
theorem D257_175 : decode T257.2.2.1 175 = .ok (.getfield 111, 3) := by decide +kernel
theorem B257_178_179 : s_dk T257.2.2.1 178 [.iload_n 2] 179 = true := by decide +kernel
theorem D257_179 : decode T257.2.2.1 179 = .ok (.iastore, 1) := by decide +kernel
theorem B257_180_182 : s_dk T257.2.2.1 180 [.aload_n 0, .dup] 182 = true := by decide +kernel
theorem D257_182 : decode T257.2.2.1 182 = .ok (.getfield 111, 3) := by decide +kernel
theorem B257_185_187 : s_dk T257.2.2.1 185 [.iconst 1, .iadd] 187 = true := by decide +kernel
theorem D257_187 : decode T257.2.2.1 187 = .ok (.putfield 111, 3) := by decide +kernel
theorem B257_190_192 : s_dk T257.2.2.1 190 [.iload_n 2, .aload_n 0] 192 = true := by decide +kernel
theorem D257_192 : decode T257.2.2.1 192 = .ok (.getfield 105, 3) := by decide +kernel
theorem B257_195_196 : s_dk T257.2.2.1 195 [.iload_n 2] 196 = true := by decide +kernel
theorem D257_196 : decode T257.2.2.1 196 = .ok (.iaload, 1) := by decide +kernel
theorem B257_197_199 : s_dk T257.2.2.1 197 [.iadd, .istore_n 2] 199 = true := by decide +kernel
theorem D257_199 : decode T257.2.2.1 199 = .ok (.goto (-34), 3) := by decide +kernel