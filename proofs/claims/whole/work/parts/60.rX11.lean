theorem dX11_thrown_0 : decode cX11_thrown 0 = .ok (.aload_n 0, 1) := by decide +kernel
theorem dX11_thrown_1 : decode cX11_thrown 1 = .ok (.getfield 1, 3) := by decide +kernel
theorem dX11_thrown_4 : decode cX11_thrown 4 = .ok (.ireturn, 1) := by decide +kernel
theorem dX11_in_0 : decode cX11_in 0 = .ok (.iload_n 0, 1) := by decide +kernel
theorem dX11_in_1 : decode cX11_in 1 = .ok (.iload_n 1, 1) := by decide +kernel
theorem dX11_in_2 : decode cX11_in 2 = .ok (.if_icmp .lt 12, 3) := by decide +kernel
theorem dX11_in_5 : decode cX11_in 5 = .ok (.iload_n 0, 1) := by decide +kernel
theorem dX11_in_6 : decode cX11_in 6 = .ok (.iload_n 2, 1) := by decide +kernel
theorem dX11_in_7 : decode cX11_in 7 = .ok (.if_icmp .gt 7, 3) := by decide +kernel
theorem dX11_in_10 : decode cX11_in 10 = .ok (.iconst 1, 1) := by decide +kernel
theorem dX11_in_11 : decode cX11_in 11 = .ok (.goto 4, 3) := by decide +kernel
theorem dX11_in_14 : decode cX11_in 14 = .ok (.iconst 0, 1) := by decide +kernel
theorem dX11_in_15 : decode cX11_in 15 = .ok (.ireturn, 1) := by decide +kernel
theorem dX11_fails_0 : decode cX11_fails 0 = .ok (.aload_n 0, 1) := by decide +kernel
theorem dX11_fails_1 : decode cX11_fails 1 = .ok (.iload_n 1, 1) := by decide +kernel
theorem dX11_fails_2 : decode cX11_fails 2 = .ok (.putfield 1, 3) := by decide +kernel
theorem dX11_fails_5 : decode cX11_fails 5 = .ok (.iconst 0, 1) := by decide +kernel
theorem dX11_fails_6 : decode cX11_fails 6 = .ok (.ireturn, 1) := by decide +kernel
theorem dX11_bits_0 : decode cX11_bits 0 = .ok (.iconst 0, 1) := by decide +kernel
theorem dX11_bits_1 : decode cX11_bits 1 = .ok (.istore_n 1, 1) := by decide +kernel
theorem dX11_bits_2 : decode cX11_bits 2 = .ok (.iconst 0, 1) := by decide +kernel
theorem dX11_bits_3 : decode cX11_bits 3 = .ok (.istore_n 2, 1) := by decide +kernel
theorem dX11_bits_4 : decode cX11_bits 4 = .ok (.iload_n 2, 1) := by decide +kernel
theorem dX11_bits_5 : decode cX11_bits 5 = .ok (.bipush 32, 2) := by decide +kernel
theorem dX11_bits_7 : decode cX11_bits 7 = .ok (.if_icmp .ge 17, 3) := by decide +kernel
theorem dX11_bits_10 : decode cX11_bits 10 = .ok (.iload_n 1, 1) := by decide +kernel
theorem dX11_bits_11 : decode cX11_bits 11 = .ok (.iload_n 0, 1) := by decide +kernel
theorem dX11_bits_12 : decode cX11_bits 12 = .ok (.iload_n 2, 1) := by decide +kernel
theorem dX11_bits_13 : decode cX11_bits 13 = .ok (.iushr, 1) := by decide +kernel
theorem dX11_bits_14 : decode cX11_bits 14 = .ok (.iconst 1, 1) := by decide +kernel
theorem dX11_bits_15 : decode cX11_bits 15 = .ok (.iand, 1) := by decide +kernel
theorem dX11_bits_16 : decode cX11_bits 16 = .ok (.iadd, 1) := by decide +kernel
theorem dX11_bits_17 : decode cX11_bits 17 = .ok (.istore_n 1, 1) := by decide +kernel
theorem dX11_bits_18 : decode cX11_bits 18 = .ok (.iinc 2 1, 3) := by decide +kernel
theorem dX11_bits_21 : decode cX11_bits 21 = .ok (.goto (-17), 3) := by decide +kernel
theorem dX11_bits_24 : decode cX11_bits 24 = .ok (.iload_n 1, 1) := by decide +kernel
theorem dX11_bits_25 : decode cX11_bits 25 = .ok (.ireturn, 1) := by decide +kernel
theorem dX11_has_0 : decode cX11_has 0 = .ok (.iload_n 0, 1) := by decide +kernel
theorem dX11_has_1 : decode cX11_has 1 = .ok (.iload_n 1, 1) := by decide +kernel
theorem dX11_has_2 : decode cX11_has 2 = .ok (.ishr, 1) := by decide +kernel
theorem dX11_has_3 : decode cX11_has 3 = .ok (.iconst 1, 1) := by decide +kernel
theorem dX11_has_4 : decode cX11_has 4 = .ok (.iand, 1) := by decide +kernel
theorem dX11_has_5 : decode cX11_has 5 = .ok (.iconst 1, 1) := by decide +kernel
theorem dX11_has_6 : decode cX11_has 6 = .ok (.if_icmp .ne 7, 3) := by decide +kernel
theorem dX11_has_9 : decode cX11_has 9 = .ok (.iconst 1, 1) := by decide +kernel
theorem dX11_has_10 : decode cX11_has 10 = .ok (.goto 4, 3) := by decide +kernel
theorem dX11_has_13 : decode cX11_has 13 = .ok (.iconst 0, 1) := by decide +kernel
theorem dX11_has_14 : decode cX11_has 14 = .ok (.ireturn, 1) := by decide +kernel
theorem dX11_init_0 : decode cX11_init 0 = .ok (.aload_n 0, 1) := by decide +kernel
theorem dX11_init_1 : decode cX11_init 1 = .ok (.invokespecial 7, 3) := by decide +kernel
theorem dX11_init_4 : decode cX11_init 4 = .ok (.aload_n 0, 1) := by decide +kernel
theorem dX11_init_5 : decode cX11_init 5 = .ok (.iconst 0, 1) := by decide +kernel
theorem dX11_init_6 : decode cX11_init 6 = .ok (.putfield 1, 3) := by decide +kernel
theorem dX11_init_9 : decode cX11_init 9 = .ok (.aload_n 0, 1) := by decide +kernel
theorem dX11_init_10 : decode cX11_init 10 = .ok (.bipush 122, 2) := by decide +kernel
theorem dX11_init_12 : decode cX11_init 12 = .ok (.newarray .int, 2) := by decide +kernel
theorem dX11_init_14 : decode cX11_init 14 = .ok (.putfield 13, 3) := by decide +kernel
theorem dX11_init_17 : decode cX11_init 17 = .ok (.aload_n 0, 1) := by decide +kernel
theorem dX11_init_18 : decode cX11_init 18 = .ok (.bipush 122, 2) := by decide +kernel
theorem dX11_init_20 : decode cX11_init 20 = .ok (.newarray .int, 2) := by decide +kernel
theorem dX11_init_22 : decode cX11_init 22 = .ok (.putfield 17, 3) := by decide +kernel
theorem dX11_init_25 : decode cX11_init 25 = .ok (.aload_n 0, 1) := by decide +kernel
theorem dX11_init_26 : decode cX11_init 26 = .ok (.sipush 976, 3) := by decide +kernel
theorem dX11_init_29 : decode cX11_init 29 = .ok (.newarray .int, 2) := by decide +kernel
theorem dX11_init_31 : decode cX11_init 31 = .ok (.putfield 20, 3) := by decide +kernel
theorem dX11_init_34 : decode cX11_init 34 = .ok (.aload_n 0, 1) := by decide +kernel
theorem dX11_init_35 : decode cX11_init 35 = .ok (.iconst 0, 1) := by decide +kernel
theorem dX11_init_36 : decode cX11_init 36 = .ok (.putfield 23, 3) := by decide +kernel
theorem dX11_init_39 : decode cX11_init 39 = .ok (.aload_n 0, 1) := by decide +kernel
theorem dX11_init_40 : decode cX11_init 40 = .ok (.iconst 0, 1) := by decide +kernel
theorem dX11_init_41 : decode cX11_init 41 = .ok (.putfield 26, 3) := by decide +kernel
theorem dX11_init_44 : decode cX11_init 44 = .ok (.aload_n 0, 1) := by decide +kernel
theorem dX11_init_45 : decode cX11_init 45 = .ok (.bipush 40, 2) := by decide +kernel
theorem dX11_init_47 : decode cX11_init 47 = .ok (.newarray .int, 2) := by decide +kernel
theorem dX11_init_49 : decode cX11_init 49 = .ok (.putfield 30, 3) := by decide +kernel
theorem dX11_init_52 : decode cX11_init 52 = .ok (.aload_n 0, 1) := by decide +kernel
theorem dX11_init_53 : decode cX11_init 53 = .ok (.iconst 0, 1) := by decide +kernel
theorem dX11_init_54 : decode cX11_init 54 = .ok (.putfield 33, 3) := by decide +kernel
theorem dX11_init_57 : decode cX11_init 57 = .ok (.aload_n 0, 1) := by decide +kernel
theorem dX11_init_58 : decode cX11_init 58 = .ok (.iconst 0, 1) := by decide +kernel
theorem dX11_init_59 : decode cX11_init 59 = .ok (.putfield 36, 3) := by decide +kernel
theorem dX11_init_62 : decode cX11_init 62 = .ok (.aload_n 0, 1) := by decide +kernel
theorem dX11_init_63 : decode cX11_init 63 = .ok (.iconst (-1), 1) := by decide +kernel
theorem dX11_init_64 : decode cX11_init 64 = .ok (.putfield 39, 3) := by decide +kernel
theorem dX11_init_67 : decode cX11_init 67 = .ok (.aload_n 0, 1) := by decide +kernel
theorem dX11_init_68 : decode cX11_init 68 = .ok (.bipush 16, 2) := by decide +kernel
theorem dX11_init_70 : decode cX11_init 70 = .ok (.newarray .int, 2) := by decide +kernel
theorem dX11_init_72 : decode cX11_init 72 = .ok (.putfield 42, 3) := by decide +kernel
theorem dX11_init_75 : decode cX11_init 75 = .ok (.aload_n 0, 1) := by decide +kernel
theorem dX11_init_76 : decode cX11_init 76 = .ok (.bipush 8, 2) := by decide +kernel
theorem dX11_init_78 : decode cX11_init 78 = .ok (.newarray .int, 2) := by decide +kernel
theorem dX11_init_80 : decode cX11_init 80 = .ok (.putfield 45, 3) := by decide +kernel
theorem dX11_init_83 : decode cX11_init 83 = .ok (.aload_n 0, 1) := by decide +kernel
theorem dX11_init_84 : decode cX11_init 84 = .ok (.bipush 8, 2) := by decide +kernel
theorem dX11_init_86 : decode cX11_init 86 = .ok (.newarray .int, 2) := by decide +kernel
theorem dX11_init_88 : decode cX11_init 88 = .ok (.putfield 48, 3) := by decide +kernel
theorem dX11_init_91 : decode cX11_init 91 = .ok (.aload_n 0, 1) := by decide +kernel
theorem dX11_init_92 : decode cX11_init 92 = .ok (.iconst 0, 1) := by decide +kernel
theorem dX11_init_93 : decode cX11_init 93 = .ok (.putfield 51, 3) := by decide +kernel
theorem dX11_init_96 : decode cX11_init 96 = .ok (.aload_n 0, 1) := by decide +kernel
theorem dX11_init_97 : decode cX11_init 97 = .ok (.sipush 1000, 3) := by decide +kernel
theorem dX11_init_100 : decode cX11_init 100 = .ok (.newarray .int, 2) := by decide +kernel
theorem dX11_init_102 : decode cX11_init 102 = .ok (.putfield 54, 3) := by decide +kernel
theorem dX11_init_105 : decode cX11_init 105 = .ok (.aload_n 0, 1) := by decide +kernel
theorem dX11_init_106 : decode cX11_init 106 = .ok (.iconst 3, 1) := by decide +kernel
theorem dX11_init_107 : decode cX11_init 107 = .ok (.newarray .int, 2) := by decide +kernel
theorem dX11_init_109 : decode cX11_init 109 = .ok (.putfield 57, 3) := by decide +kernel
theorem dX11_init_112 : decode cX11_init 112 = .ok (.aload_n 0, 1) := by decide +kernel
theorem dX11_init_113 : decode cX11_init 113 = .ok (.bipush 8, 2) := by decide +kernel
theorem dX11_init_115 : decode cX11_init 115 = .ok (.newarray .int, 2) := by decide +kernel
theorem dX11_init_117 : decode cX11_init 117 = .ok (.putfield 60, 3) := by decide +kernel
theorem dX11_init_120 : decode cX11_init 120 = .ok (.aload_n 0, 1) := by decide +kernel
theorem dX11_init_121 : decode cX11_init 121 = .ok (.iconst 0, 1) := by decide +kernel
theorem dX11_init_122 : decode cX11_init 122 = .ok (.putfield 63, 3) := by decide +kernel
theorem dX11_init_125 : decode cX11_init 125 = .ok (.aload_n 0, 1) := by decide +kernel
theorem dX11_init_126 : decode cX11_init 126 = .ok (.iconst 0, 1) := by decide +kernel
theorem dX11_init_127 : decode cX11_init 127 = .ok (.putfield 66, 3) := by decide +kernel
theorem dX11_init_130 : decode cX11_init 130 = .ok (.aload_n 0, 1) := by decide +kernel
theorem dX11_init_131 : decode cX11_init 131 = .ok (.iconst 0, 1) := by decide +kernel
theorem dX11_init_132 : decode cX11_init 132 = .ok (.putfield 69, 3) := by decide +kernel
theorem dX11_init_135 : decode cX11_init 135 = .ok (.aload_n 0, 1) := by decide +kernel
theorem dX11_init_136 : decode cX11_init 136 = .ok (.iconst 5, 1) := by decide +kernel
theorem dX11_init_137 : decode cX11_init 137 = .ok (.newarray .long, 2) := by decide +kernel
theorem dX11_init_139 : decode cX11_init 139 = .ok (.putfield 72, 3) := by decide +kernel
theorem dX11_init_142 : decode cX11_init 142 = .ok (.aload_n 0, 1) := by decide +kernel
theorem dX11_init_143 : decode cX11_init 143 = .ok (.iconst 5, 1) := by decide +kernel
theorem dX11_init_144 : decode cX11_init 144 = .ok (.newarray .long, 2) := by decide +kernel
theorem dX11_init_146 : decode cX11_init 146 = .ok (.putfield 76, 3) := by decide +kernel
theorem dX11_init_149 : decode cX11_init 149 = .ok (.aload_n 0, 1) := by decide +kernel
theorem dX11_init_150 : decode cX11_init 150 = .ok (.iconst 3, 1) := by decide +kernel
theorem dX11_init_151 : decode cX11_init 151 = .ok (.newarray .int, 2) := by decide +kernel
theorem dX11_init_153 : decode cX11_init 153 = .ok (.putfield 79, 3) := by decide +kernel
theorem dX11_init_156 : decode cX11_init 156 = .ok (.aload_n 0, 1) := by decide +kernel
theorem dX11_init_157 : decode cX11_init 157 = .ok (.lconst 0, 1) := by decide +kernel
theorem dX11_init_158 : decode cX11_init 158 = .ok (.putfield 82, 3) := by decide +kernel
theorem dX11_init_161 : decode cX11_init 161 = .ok (.aload_n 0, 1) := by decide +kernel
theorem dX11_init_162 : decode cX11_init 162 = .ok (.iconst 0, 1) := by decide +kernel
theorem dX11_init_163 : decode cX11_init 163 = .ok (.putfield 86, 3) := by decide +kernel
theorem dX11_init_166 : decode cX11_init 166 = .ok (.aload_n 0, 1) := by decide +kernel
theorem dX11_init_167 : decode cX11_init 167 = .ok (.sipush 10240, 3) := by decide +kernel
theorem dX11_init_170 : decode cX11_init 170 = .ok (.newarray .int, 2) := by decide +kernel
theorem dX11_init_172 : decode cX11_init 172 = .ok (.putfield 89, 3) := by decide +kernel
theorem dX11_init_175 : decode cX11_init 175 = .ok (.aload_n 0, 1) := by decide +kernel
theorem dX11_init_176 : decode cX11_init 176 = .ok (.bipush 8, 2) := by decide +kernel
theorem dX11_init_178 : decode cX11_init 178 = .ok (.newarray .int, 2) := by decide +kernel
theorem dX11_init_180 : decode cX11_init 180 = .ok (.putfield 92, 3) := by decide +kernel
theorem dX11_init_183 : decode cX11_init 183 = .ok (.aload_n 0, 1) := by decide +kernel
theorem dX11_init_184 : decode cX11_init 184 = .ok (.sipush 1000, 3) := by decide +kernel
theorem dX11_init_187 : decode cX11_init 187 = .ok (.newarray .boolean, 2) := by decide +kernel
theorem dX11_init_189 : decode cX11_init 189 = .ok (.putfield 95, 3) := by decide +kernel
theorem dX11_init_192 : decode cX11_init 192 = .ok (.aload_n 0, 1) := by decide +kernel
theorem dX11_init_193 : decode cX11_init 193 = .ok (.iconst 0, 1) := by decide +kernel
theorem dX11_init_194 : decode cX11_init 194 = .ok (.putfield 99, 3) := by decide +kernel
theorem dX11_init_197 : decode cX11_init 197 = .ok (.aload_n 0, 1) := by decide +kernel
theorem dX11_init_198 : decode cX11_init 198 = .ok (.iconst 0, 1) := by decide +kernel
theorem dX11_init_199 : decode cX11_init 199 = .ok (.putfield 102, 3) := by decide +kernel
theorem dX11_init_202 : decode cX11_init 202 = .ok (.return_, 1) := by decide +kernel
theorem dX11_keeps_0 : decode cX11_keeps 0 = .ok (.aload_n 0, 1) := by decide +kernel
theorem dX11_keeps_1 : decode cX11_keeps 1 = .ok (.getfield 23, 3) := by decide +kernel
theorem dX11_keeps_4 : decode cX11_keeps 4 = .ok (.bipush 8, 2) := by decide +kernel
theorem dX11_keeps_6 : decode cX11_keeps 6 = .ok (.if_icmp .ne 43, 3) := by decide +kernel
theorem dX11_keeps_9 : decode cX11_keeps 9 = .ok (.iconst 0, 1) := by decide +kernel
theorem dX11_keeps_10 : decode cX11_keeps 10 = .ok (.istore_n 1, 1) := by decide +kernel
theorem dX11_keeps_11 : decode cX11_keeps 11 = .ok (.iload_n 1, 1) := by decide +kernel
theorem dX11_keeps_12 : decode cX11_keeps 12 = .ok (.sipush 854, 3) := by decide +kernel
theorem dX11_keeps_15 : decode cX11_keeps 15 = .ok (.if_icmp .ge 24, 3) := by decide +kernel
theorem dX11_keeps_18 : decode cX11_keeps 18 = .ok (.aload_n 0, 1) := by decide +kernel
theorem dX11_keeps_19 : decode cX11_keeps 19 = .ok (.getfield 20, 3) := by decide +kernel
theorem dX11_keeps_22 : decode cX11_keeps 22 = .ok (.iload_n 1, 1) := by decide +kernel
theorem dX11_keeps_23 : decode cX11_keeps 23 = .ok (.aload_n 0, 1) := by decide +kernel
theorem dX11_keeps_24 : decode cX11_keeps 24 = .ok (.getfield 20, 3) := by decide +kernel
theorem dX11_keeps_27 : decode cX11_keeps 27 = .ok (.iload_n 1, 1) := by decide +kernel
theorem dX11_keeps_28 : decode cX11_keeps 28 = .ok (.bipush 122, 2) := by decide +kernel
theorem dX11_keeps_30 : decode cX11_keeps 30 = .ok (.iadd, 1) := by decide +kernel
theorem dX11_keeps_31 : decode cX11_keeps 31 = .ok (.iaload, 1) := by decide +kernel
theorem dX11_keeps_32 : decode cX11_keeps 32 = .ok (.iastore, 1) := by decide +kernel
theorem dX11_keeps_33 : decode cX11_keeps 33 = .ok (.iinc 1 1, 3) := by decide +kernel
theorem dX11_keeps_36 : decode cX11_keeps 36 = .ok (.goto (-25), 3) := by decide +kernel
theorem dX11_keeps_39 : decode cX11_keeps 39 = .ok (.aload_n 0, 1) := by decide +kernel
theorem dX11_keeps_40 : decode cX11_keeps 40 = .ok (.dup, 1) := by decide +kernel
theorem dX11_keeps_41 : decode cX11_keeps 41 = .ok (.getfield 23, 3) := by decide +kernel
theorem dX11_keeps_44 : decode cX11_keeps 44 = .ok (.iconst 1, 1) := by decide +kernel
theorem dX11_keeps_45 : decode cX11_keeps 45 = .ok (.isub, 1) := by decide +kernel
theorem dX11_keeps_46 : decode cX11_keeps 46 = .ok (.putfield 23, 3) := by decide +kernel
theorem dX11_keeps_49 : decode cX11_keeps 49 = .ok (.iconst 0, 1) := by decide +kernel
theorem dX11_keeps_50 : decode cX11_keeps 50 = .ok (.istore_n 1, 1) := by decide +kernel
theorem dX11_keeps_51 : decode cX11_keeps 51 = .ok (.iload_n 1, 1) := by decide +kernel
theorem dX11_keeps_52 : decode cX11_keeps 52 = .ok (.bipush 122, 2) := by decide +kernel
theorem dX11_keeps_54 : decode cX11_keeps 54 = .ok (.if_icmp .ge 29, 3) := by decide +kernel
theorem dX11_keeps_57 : decode cX11_keeps 57 = .ok (.aload_n 0, 1) := by decide +kernel
theorem dX11_keeps_58 : decode cX11_keeps 58 = .ok (.getfield 20, 3) := by decide +kernel
theorem dX11_keeps_61 : decode cX11_keeps 61 = .ok (.aload_n 0, 1) := by decide +kernel
theorem dX11_keeps_62 : decode cX11_keeps 62 = .ok (.getfield 23, 3) := by decide +kernel
theorem dX11_keeps_65 : decode cX11_keeps 65 = .ok (.bipush 122, 2) := by decide +kernel
theorem dX11_keeps_67 : decode cX11_keeps 67 = .ok (.imul, 1) := by decide +kernel
theorem dX11_keeps_68 : decode cX11_keeps 68 = .ok (.iload_n 1, 1) := by decide +kernel
theorem dX11_keeps_69 : decode cX11_keeps 69 = .ok (.iadd, 1) := by decide +kernel
theorem dX11_keeps_70 : decode cX11_keeps 70 = .ok (.aload_n 0, 1) := by decide +kernel
theorem dX11_keeps_71 : decode cX11_keeps 71 = .ok (.getfield 13, 3) := by decide +kernel
theorem dX11_keeps_74 : decode cX11_keeps 74 = .ok (.iload_n 1, 1) := by decide +kernel
theorem dX11_keeps_75 : decode cX11_keeps 75 = .ok (.iaload, 1) := by decide +kernel
theorem dX11_keeps_76 : decode cX11_keeps 76 = .ok (.iastore, 1) := by decide +kernel
theorem dX11_keeps_77 : decode cX11_keeps 77 = .ok (.iinc 1 1, 3) := by decide +kernel
theorem dX11_keeps_80 : decode cX11_keeps 80 = .ok (.goto (-29), 3) := by decide +kernel
theorem dX11_keeps_83 : decode cX11_keeps 83 = .ok (.aload_n 0, 1) := by decide +kernel
theorem dX11_keeps_84 : decode cX11_keeps 84 = .ok (.dup, 1) := by decide +kernel
theorem dX11_keeps_85 : decode cX11_keeps 85 = .ok (.getfield 23, 3) := by decide +kernel
theorem dX11_keeps_88 : decode cX11_keeps 88 = .ok (.iconst 1, 1) := by decide +kernel
theorem dX11_keeps_89 : decode cX11_keeps 89 = .ok (.iadd, 1) := by decide +kernel
theorem dX11_keeps_90 : decode cX11_keeps 90 = .ok (.putfield 23, 3) := by decide +kernel
theorem dX11_keeps_93 : decode cX11_keeps 93 = .ok (.return_, 1) := by decide +kernel
set_option maxRecDepth 20000 in
theorem ggX11_isState_X11_in : GoodIn wsX11_isState wsX11_in := goodIn_r _ [4] (by decide +kernel) (by decide +kernel)
set_option maxRecDepth 20000 in
theorem gX11_isState_X11_in : GoodIn wsX11_isState (va_wsS RX11 105 yX11_in wsX11_in) := goodIn_app (goodIn_of _ (by decide +kernel)) ggX11_isState_X11_in
theorem dX11_isState_0 : decode cX11_isState 0 = .ok (.iload_n 0, 1) := by decide +kernel
theorem dX11_isState_1 : decode cX11_isState 1 = .ok (.iconst 0, 1) := by decide +kernel
theorem dX11_isState_2 : decode cX11_isState 2 = .ok (.iconst 4, 1) := by decide +kernel
theorem dX11_isState_3 : decode cX11_isState 3 = .ok (.invokestatic 105, 3) := by decide +kernel
theorem dX11_isState_6 : decode cX11_isState 6 = .ok (.ireturn, 1) := by decide +kernel
set_option maxRecDepth 20000 in
theorem ggX11_isLetter_X11_in : GoodIn wsX11_isLetter wsX11_in := goodIn_r _ [4] (by decide +kernel) (by decide +kernel)
set_option maxRecDepth 20000 in
theorem gX11_isLetter_X11_in : GoodIn wsX11_isLetter (va_wsS RX11 105 yX11_in wsX11_in) := goodIn_app (goodIn_of _ (by decide +kernel)) ggX11_isLetter_X11_in
theorem dX11_isLetter_0 : decode cX11_isLetter 0 = .ok (.iload_n 0, 1) := by decide +kernel
theorem dX11_isLetter_1 : decode cX11_isLetter 1 = .ok (.iconst 0, 1) := by decide +kernel
theorem dX11_isLetter_2 : decode cX11_isLetter 2 = .ok (.iconst 2, 1) := by decide +kernel
theorem dX11_isLetter_3 : decode cX11_isLetter 3 = .ok (.invokestatic 105, 3) := by decide +kernel
theorem dX11_isLetter_6 : decode cX11_isLetter 6 = .ok (.ireturn, 1) := by decide +kernel
theorem dX11_next_0 : decode cX11_next 0 = .ok (.aload_n 0, 1) := by decide +kernel
theorem dX11_next_1 : decode cX11_next 1 = .ok (.getfield 13, 3) := by decide +kernel
theorem dX11_next_4 : decode cX11_next 4 = .ok (.iconst 3, 1) := by decide +kernel
theorem dX11_next_5 : decode cX11_next 5 = .ok (.iload_n 1, 1) := by decide +kernel
theorem dX11_next_6 : decode cX11_next 6 = .ok (.imul, 1) := by decide +kernel
theorem dX11_next_7 : decode cX11_next 7 = .ok (.iload_n 2, 1) := by decide +kernel
theorem dX11_next_8 : decode cX11_next 8 = .ok (.iadd, 1) := by decide +kernel
theorem dX11_next_9 : decode cX11_next 9 = .ok (.iaload, 1) := by decide +kernel
theorem dX11_next_10 : decode cX11_next 10 = .ok (.ireturn, 1) := by decide +kernel
set_option maxRecDepth 20000 in
theorem ggX11_appendCharacter_X11_in : GoodIn wsX11_appendCharacter wsX11_in := goodIn_r _ [7] (by decide +kernel) (by decide +kernel)
set_option maxRecDepth 20000 in
theorem gX11_appendCharacter_X11_in : GoodIn wsX11_appendCharacter (va_wsS RX11 105 yX11_in wsX11_in) := goodIn_app (goodIn_of _ (by decide +kernel)) ggX11_appendCharacter_X11_in
set_option maxRecDepth 20000 in
theorem ggX11_appendCharacter_X11_fails : GoodIn wsX11_appendCharacter wsX11_fails := goodIn_r _ [11, 1, 12, 13, 14, 15, 16, 17, 18, 19, 20, 21, 22, 23, 24, 25, 26, 27, 28, 29, 30, 31, 32, 33, 34, 35, 36, 37, 38, 39, 40, 41] (by decide +kernel) (by decide +kernel)
set_option maxRecDepth 20000 in
theorem gX11_appendCharacter_X11_fails : GoodIn wsX11_appendCharacter (wsV RX11 109 RX11 yX11_fails wsX11_fails) := goodIn_app (goodIn_of _ (by decide +kernel)) ggX11_appendCharacter_X11_fails
theorem dX11_appendCharacter_0 : decode cX11_appendCharacter 0 = .ok (.aload_n 0, 1) := by decide +kernel
theorem dX11_appendCharacter_1 : decode cX11_appendCharacter 1 = .ok (.iconst 0, 1) := by decide +kernel
theorem dX11_appendCharacter_2 : decode cX11_appendCharacter 2 = .ok (.putfield 1, 3) := by decide +kernel
theorem dX11_appendCharacter_5 : decode cX11_appendCharacter 5 = .ok (.iload_n 1, 1) := by decide +kernel
theorem dX11_appendCharacter_6 : decode cX11_appendCharacter 6 = .ok (.bipush 33, 2) := by decide +kernel
theorem dX11_appendCharacter_8 : decode cX11_appendCharacter 8 = .ok (.bipush 126, 2) := by decide +kernel
theorem dX11_appendCharacter_10 : decode cX11_appendCharacter 10 = .ok (.invokestatic 105, 3) := by decide +kernel
theorem dX11_appendCharacter_13 : decode cX11_appendCharacter 13 = .ok (.ifCond .ne 9, 3) := by decide +kernel
theorem dX11_appendCharacter_16 : decode cX11_appendCharacter 16 = .ok (.aload_n 0, 1) := by decide +kernel
theorem dX11_appendCharacter_17 : decode cX11_appendCharacter 17 = .ok (.iconst 1, 1) := by decide +kernel
theorem dX11_appendCharacter_18 : decode cX11_appendCharacter 18 = .ok (.invokevirtual 109, 3) := by decide +kernel
theorem dX11_appendCharacter_21 : decode cX11_appendCharacter 21 = .ok (.ireturn, 1) := by decide +kernel
theorem dX11_appendCharacter_22 : decode cX11_appendCharacter 22 = .ok (.aload_n 0, 1) := by decide +kernel
theorem dX11_appendCharacter_23 : decode cX11_appendCharacter 23 = .ok (.getfield 33, 3) := by decide +kernel
theorem dX11_appendCharacter_26 : decode cX11_appendCharacter 26 = .ok (.bipush 40, 2) := by decide +kernel
theorem dX11_appendCharacter_28 : decode cX11_appendCharacter 28 = .ok (.if_icmp .ne 9, 3) := by decide +kernel
theorem dX11_appendCharacter_31 : decode cX11_appendCharacter 31 = .ok (.aload_n 0, 1) := by decide +kernel
theorem dX11_appendCharacter_32 : decode cX11_appendCharacter 32 = .ok (.iconst 2, 1) := by decide +kernel
theorem dX11_appendCharacter_33 : decode cX11_appendCharacter 33 = .ok (.invokevirtual 109, 3) := by decide +kernel
theorem dX11_appendCharacter_36 : decode cX11_appendCharacter 36 = .ok (.ireturn, 1) := by decide +kernel
theorem dX11_appendCharacter_37 : decode cX11_appendCharacter 37 = .ok (.aload_n 0, 1) := by decide +kernel
theorem dX11_appendCharacter_38 : decode cX11_appendCharacter 38 = .ok (.getfield 30, 3) := by decide +kernel
theorem dX11_appendCharacter_41 : decode cX11_appendCharacter 41 = .ok (.aload_n 0, 1) := by decide +kernel
theorem dX11_appendCharacter_42 : decode cX11_appendCharacter 42 = .ok (.getfield 33, 3) := by decide +kernel
theorem dX11_appendCharacter_45 : decode cX11_appendCharacter 45 = .ok (.iload_n 1, 1) := by decide +kernel
theorem dX11_appendCharacter_46 : decode cX11_appendCharacter 46 = .ok (.iastore, 1) := by decide +kernel
theorem dX11_appendCharacter_47 : decode cX11_appendCharacter 47 = .ok (.aload_n 0, 1) := by decide +kernel
theorem dX11_appendCharacter_48 : decode cX11_appendCharacter 48 = .ok (.dup, 1) := by decide +kernel
theorem dX11_appendCharacter_49 : decode cX11_appendCharacter 49 = .ok (.getfield 33, 3) := by decide +kernel
theorem dX11_appendCharacter_52 : decode cX11_appendCharacter 52 = .ok (.iconst 1, 1) := by decide +kernel
theorem dX11_appendCharacter_53 : decode cX11_appendCharacter 53 = .ok (.iadd, 1) := by decide +kernel
theorem dX11_appendCharacter_54 : decode cX11_appendCharacter 54 = .ok (.putfield 33, 3) := by decide +kernel
theorem dX11_appendCharacter_57 : decode cX11_appendCharacter 57 = .ok (.aload_n 0, 1) := by decide +kernel
theorem dX11_appendCharacter_58 : decode cX11_appendCharacter 58 = .ok (.getfield 33, 3) := by decide +kernel
theorem dX11_appendCharacter_61 : decode cX11_appendCharacter 61 = .ok (.ireturn, 1) := by decide +kernel
theorem dX11_faultPosition_0 : decode cX11_faultPosition 0 = .ok (.aload_n 0, 1) := by decide +kernel
theorem dX11_faultPosition_1 : decode cX11_faultPosition 1 = .ok (.getfield 39, 3) := by decide +kernel
theorem dX11_faultPosition_4 : decode cX11_faultPosition 4 = .ok (.ireturn, 1) := by decide +kernel
set_option maxRecDepth 20000 in
theorem ggX11_sign_X11_in : GoodIn wsX11_sign wsX11_in := goodIn_r _ [8] (by decide +kernel) (by decide +kernel)
set_option maxRecDepth 20000 in
theorem gX11_sign_X11_in : GoodIn wsX11_sign (va_wsS RX11 105 yX11_in wsX11_in) := goodIn_app (goodIn_of _ (by decide +kernel)) ggX11_sign_X11_in
theorem dX11_sign_0 : decode cX11_sign 0 = .ok (.aload_n 0, 1) := by decide +kernel
theorem dX11_sign_1 : decode cX11_sign 1 = .ok (.getfield 39, 3) := by decide +kernel
theorem dX11_sign_4 : decode cX11_sign 4 = .ok (.ifCond .lt 5, 3) := by decide +kernel
theorem dX11_sign_7 : decode cX11_sign 7 = .ok (.iconst 0, 1) := by decide +kernel
theorem dX11_sign_8 : decode cX11_sign 8 = .ok (.ireturn, 1) := by decide +kernel
theorem dX11_sign_9 : decode cX11_sign 9 = .ok (.aload_n 0, 1) := by decide +kernel
theorem dX11_sign_10 : decode cX11_sign 10 = .ok (.getfield 36, 3) := by decide +kernel
theorem dX11_sign_13 : decode cX11_sign 13 = .ok (.aload_n 0, 1) := by decide +kernel
theorem dX11_sign_14 : decode cX11_sign 14 = .ok (.getfield 33, 3) := by decide +kernel
theorem dX11_sign_17 : decode cX11_sign 17 = .ok (.if_icmp .ge 20, 3) := by decide +kernel
theorem dX11_sign_20 : decode cX11_sign 20 = .ok (.aload_n 0, 1) := by decide +kernel
theorem dX11_sign_21 : decode cX11_sign 21 = .ok (.getfield 30, 3) := by decide +kernel
theorem dX11_sign_24 : decode cX11_sign 24 = .ok (.aload_n 0, 1) := by decide +kernel
theorem dX11_sign_25 : decode cX11_sign 25 = .ok (.getfield 36, 3) := by decide +kernel
theorem dX11_sign_28 : decode cX11_sign 28 = .ok (.iaload, 1) := by decide +kernel
theorem dX11_sign_29 : decode cX11_sign 29 = .ok (.iload_n 1, 1) := by decide +kernel
theorem dX11_sign_30 : decode cX11_sign 30 = .ok (.iload_n 2, 1) := by decide +kernel
theorem dX11_sign_31 : decode cX11_sign 31 = .ok (.invokestatic 105, 3) := by decide +kernel
theorem dX11_sign_34 : decode cX11_sign 34 = .ok (.ifCond .ne 13, 3) := by decide +kernel
theorem dX11_sign_37 : decode cX11_sign 37 = .ok (.aload_n 0, 1) := by decide +kernel
theorem dX11_sign_38 : decode cX11_sign 38 = .ok (.aload_n 0, 1) := by decide +kernel
theorem dX11_sign_39 : decode cX11_sign 39 = .ok (.getfield 36, 3) := by decide +kernel
theorem dX11_sign_42 : decode cX11_sign 42 = .ok (.putfield 39, 3) := by decide +kernel
theorem dX11_sign_45 : decode cX11_sign 45 = .ok (.iconst 0, 1) := by decide +kernel
theorem dX11_sign_46 : decode cX11_sign 46 = .ok (.ireturn, 1) := by decide +kernel
theorem dX11_sign_47 : decode cX11_sign 47 = .ok (.aload_n 0, 1) := by decide +kernel
theorem dX11_sign_48 : decode cX11_sign 48 = .ok (.dup, 1) := by decide +kernel
theorem dX11_sign_49 : decode cX11_sign 49 = .ok (.getfield 36, 3) := by decide +kernel
theorem dX11_sign_52 : decode cX11_sign 52 = .ok (.iconst 1, 1) := by decide +kernel
theorem dX11_sign_53 : decode cX11_sign 53 = .ok (.iadd, 1) := by decide +kernel
theorem dX11_sign_54 : decode cX11_sign 54 = .ok (.putfield 36, 3) := by decide +kernel
theorem dX11_sign_57 : decode cX11_sign 57 = .ok (.aload_n 0, 1) := by decide +kernel
theorem dX11_sign_58 : decode cX11_sign 58 = .ok (.getfield 30, 3) := by decide +kernel
theorem dX11_sign_61 : decode cX11_sign 61 = .ok (.aload_n 0, 1) := by decide +kernel
theorem dX11_sign_62 : decode cX11_sign 62 = .ok (.getfield 36, 3) := by decide +kernel
theorem dX11_sign_65 : decode cX11_sign 65 = .ok (.iconst 1, 1) := by decide +kernel
theorem dX11_sign_66 : decode cX11_sign 66 = .ok (.isub, 1) := by decide +kernel
theorem dX11_sign_67 : decode cX11_sign 67 = .ok (.iaload, 1) := by decide +kernel
theorem dX11_sign_68 : decode cX11_sign 68 = .ok (.iload_n 1, 1) := by decide +kernel
theorem dX11_sign_69 : decode cX11_sign 69 = .ok (.isub, 1) := by decide +kernel
theorem dX11_sign_70 : decode cX11_sign 70 = .ok (.ireturn, 1) := by decide +kernel
set_option maxRecDepth 20000 in
theorem ggX11_readItem_X11_sign : GoodIn wsX11_readItem wsX11_sign := goodIn_ca (goodIn_r _ [10, 4, 1, 2, 3, 11, 12, 9, 13, 14, 15, 16, 17, 18, 19, 20, 21, 22, 23, 24, 25, 26, 27, 28, 29, 30, 31, 32, 33, 34, 35, 36, 37, 38, 39, 40, 41, 42, 43] (by decide +kernel) (by decide +kernel)) (goodIn_sub (fun _ h => List.mem_cons_of_mem _ (List.mem_append_right _ h)) (gsub_f _))
set_option maxRecDepth 20000 in
theorem gX11_readItem_X11_sign : GoodIn wsX11_readItem (wsV RX11 113 RX11 yX11_sign wsX11_sign) := goodIn_app (goodIn_of _ (by decide +kernel)) ggX11_readItem_X11_sign
theorem dX11_readItem_0 : decode cX11_readItem 0 = .ok (.aload_n 0, 1) := by decide +kernel
theorem dX11_readItem_1 : decode cX11_readItem 1 = .ok (.getfield 36, 3) := by decide +kernel
theorem dX11_readItem_4 : decode cX11_readItem 4 = .ok (.aload_n 0, 1) := by decide +kernel
theorem dX11_readItem_5 : decode cX11_readItem 5 = .ok (.getfield 33, 3) := by decide +kernel
theorem dX11_readItem_8 : decode cX11_readItem 8 = .ok (.if_icmp .ge 57, 3) := by decide +kernel
theorem dX11_readItem_11 : decode cX11_readItem 11 = .ok (.aload_n 0, 1) := by decide +kernel
theorem dX11_readItem_12 : decode cX11_readItem 12 = .ok (.getfield 30, 3) := by decide +kernel
theorem dX11_readItem_15 : decode cX11_readItem 15 = .ok (.aload_n 0, 1) := by decide +kernel
theorem dX11_readItem_16 : decode cX11_readItem 16 = .ok (.getfield 36, 3) := by decide +kernel
theorem dX11_readItem_19 : decode cX11_readItem 19 = .ok (.iaload, 1) := by decide +kernel
theorem dX11_readItem_20 : decode cX11_readItem 20 = .ok (.bipush 33, 2) := by decide +kernel
theorem dX11_readItem_22 : decode cX11_readItem 22 = .ok (.if_icmp .ne 43, 3) := by decide +kernel
theorem dX11_readItem_25 : decode cX11_readItem 25 = .ok (.aload_n 0, 1) := by decide +kernel
theorem dX11_readItem_26 : decode cX11_readItem 26 = .ok (.dup, 1) := by decide +kernel
theorem dX11_readItem_27 : decode cX11_readItem 27 = .ok (.getfield 36, 3) := by decide +kernel
theorem dX11_readItem_30 : decode cX11_readItem 30 = .ok (.iconst 1, 1) := by decide +kernel
theorem dX11_readItem_31 : decode cX11_readItem 31 = .ok (.iadd, 1) := by decide +kernel
theorem dX11_readItem_32 : decode cX11_readItem 32 = .ok (.putfield 36, 3) := by decide +kernel
theorem dX11_readItem_35 : decode cX11_readItem 35 = .ok (.aload_n 0, 1) := by decide +kernel
theorem dX11_readItem_36 : decode cX11_readItem 36 = .ok (.bipush 48, 2) := by decide +kernel
theorem dX11_readItem_38 : decode cX11_readItem 38 = .ok (.bipush 52, 2) := by decide +kernel
theorem dX11_readItem_40 : decode cX11_readItem 40 = .ok (.invokevirtual 113, 3) := by decide +kernel
theorem dX11_readItem_43 : decode cX11_readItem 43 = .ok (.istore_n 1, 1) := by decide +kernel
theorem dX11_readItem_44 : decode cX11_readItem 44 = .ok (.aload_n 0, 1) := by decide +kernel
theorem dX11_readItem_45 : decode cX11_readItem 45 = .ok (.getfield 39, 3) := by decide +kernel
theorem dX11_readItem_48 : decode cX11_readItem 48 = .ok (.ifCond .ge 16, 3) := by decide +kernel
theorem dX11_readItem_51 : decode cX11_readItem 51 = .ok (.aload_n 0, 1) := by decide +kernel
theorem dX11_readItem_52 : decode cX11_readItem 52 = .ok (.getfield 42, 3) := by decide +kernel
theorem dX11_readItem_55 : decode cX11_readItem 55 = .ok (.bipush 15, 2) := by decide +kernel
theorem dX11_readItem_57 : decode cX11_readItem 57 = .ok (.dup2, 1) := by decide +kernel
theorem dX11_readItem_58 : decode cX11_readItem 58 = .ok (.iaload, 1) := by decide +kernel
theorem dX11_readItem_59 : decode cX11_readItem 59 = .ok (.iconst 1, 1) := by decide +kernel
theorem dX11_readItem_60 : decode cX11_readItem 60 = .ok (.iload_n 1, 1) := by decide +kernel
theorem dX11_readItem_61 : decode cX11_readItem 61 = .ok (.ishl, 1) := by decide +kernel
theorem dX11_readItem_62 : decode cX11_readItem 62 = .ok (.ior, 1) := by decide +kernel
theorem dX11_readItem_63 : decode cX11_readItem 63 = .ok (.iastore, 1) := by decide +kernel
theorem dX11_readItem_64 : decode cX11_readItem 64 = .ok (.return_, 1) := by decide +kernel
theorem dX11_readItem_65 : decode cX11_readItem 65 = .ok (.aload_n 0, 1) := by decide +kernel
theorem dX11_readItem_66 : decode cX11_readItem 66 = .ok (.bipush 48, 2) := by decide +kernel
theorem dX11_readItem_68 : decode cX11_readItem 68 = .ok (.bipush 52, 2) := by decide +kernel
theorem dX11_readItem_70 : decode cX11_readItem 70 = .ok (.invokevirtual 113, 3) := by decide +kernel
theorem dX11_readItem_73 : decode cX11_readItem 73 = .ok (.istore_n 1, 1) := by decide +kernel
theorem dX11_readItem_74 : decode cX11_readItem 74 = .ok (.aload_n 0, 1) := by decide +kernel
theorem dX11_readItem_75 : decode cX11_readItem 75 = .ok (.bipush 97, 2) := by decide +kernel
theorem dX11_readItem_77 : decode cX11_readItem 77 = .ok (.bipush 99, 2) := by decide +kernel
theorem dX11_readItem_79 : decode cX11_readItem 79 = .ok (.invokevirtual 113, 3) := by decide +kernel
theorem dX11_readItem_82 : decode cX11_readItem 82 = .ok (.istore_n 2, 1) := by decide +kernel
theorem dX11_readItem_83 : decode cX11_readItem 83 = .ok (.aload_n 0, 1) := by decide +kernel
theorem dX11_readItem_84 : decode cX11_readItem 84 = .ok (.bipush 48, 2) := by decide +kernel
theorem dX11_readItem_86 : decode cX11_readItem 86 = .ok (.bipush 52, 2) := by decide +kernel
theorem dX11_readItem_88 : decode cX11_readItem 88 = .ok (.invokevirtual 113, 3) := by decide +kernel
theorem dX11_readItem_91 : decode cX11_readItem 91 = .ok (.istore_n 3, 1) := by decide +kernel
theorem dX11_readItem_92 : decode cX11_readItem 92 = .ok (.aload_n 0, 1) := by decide +kernel
theorem dX11_readItem_93 : decode cX11_readItem 93 = .ok (.getfield 39, 3) := by decide +kernel
theorem dX11_readItem_96 : decode cX11_readItem 96 = .ok (.ifCond .ge 19, 3) := by decide +kernel
theorem dX11_readItem_99 : decode cX11_readItem 99 = .ok (.aload_n 0, 1) := by decide +kernel
theorem dX11_readItem_100 : decode cX11_readItem 100 = .ok (.getfield 42, 3) := by decide +kernel
theorem dX11_readItem_103 : decode cX11_readItem 103 = .ok (.iconst 3, 1) := by decide +kernel
theorem dX11_readItem_104 : decode cX11_readItem 104 = .ok (.iload_n 1, 1) := by decide +kernel
theorem dX11_readItem_105 : decode cX11_readItem 105 = .ok (.imul, 1) := by decide +kernel
theorem dX11_readItem_106 : decode cX11_readItem 106 = .ok (.iload_n 2, 1) := by decide +kernel
theorem dX11_readItem_107 : decode cX11_readItem 107 = .ok (.iadd, 1) := by decide +kernel
theorem dX11_readItem_108 : decode cX11_readItem 108 = .ok (.dup2, 1) := by decide +kernel
theorem dX11_readItem_109 : decode cX11_readItem 109 = .ok (.iaload, 1) := by decide +kernel
theorem dX11_readItem_110 : decode cX11_readItem 110 = .ok (.iconst 1, 1) := by decide +kernel
theorem dX11_readItem_111 : decode cX11_readItem 111 = .ok (.iload_n 3, 1) := by decide +kernel
theorem dX11_readItem_112 : decode cX11_readItem 112 = .ok (.ishl, 1) := by decide +kernel
theorem dX11_readItem_113 : decode cX11_readItem 113 = .ok (.ior, 1) := by decide +kernel
theorem dX11_readItem_114 : decode cX11_readItem 114 = .ok (.iastore, 1) := by decide +kernel
theorem dX11_readItem_115 : decode cX11_readItem 115 = .ok (.return_, 1) := by decide +kernel
set_option maxRecDepth 20000 in
theorem ggX11_addText_X11_readItem : GoodIn wsX11_addText wsX11_readItem := goodIn_ca (goodIn_r _ [11, 2, 6, 12, 3, 4, 13, 14, 15, 10, 16, 17, 18, 19, 33, 34, 35, 36, 37, 38, 39, 40, 41, 42, 43, 44, 45, 46, 47, 48, 49, 50, 51, 52, 53, 54, 55, 56, 57, 58, 59, 60, 61, 62] (by decide +kernel) (by decide +kernel)) (goodIn_sub (fun _ h => List.mem_cons_of_mem _ (List.mem_append_right _ h)) (gsub_f _))
set_option maxRecDepth 20000 in
theorem gX11_addText_X11_readItem : GoodIn wsX11_addText (wsV RX11 117 RX11 yX11_readItem wsX11_readItem) := goodIn_app (goodIn_r _ [7, 8, 9, 10] (by decide +kernel) (by decide +kernel)) ggX11_addText_X11_readItem
set_option maxRecDepth 20000 in
theorem ggX11_addText_X11_sign : GoodIn wsX11_addText wsX11_sign := goodIn_ca (goodIn_r _ [16, 3, 2, 6, 12, 17, 18, 10, 19, 33, 34, 35, 36, 37, 38, 39, 40, 41, 42, 43, 44, 45, 46, 47, 48, 49, 50, 51, 52, 53, 54, 55, 56, 57, 58, 59, 60, 61, 62] (by decide +kernel) (by decide +kernel)) (goodIn_sub (fun _ h => List.mem_cons_of_mem _ (List.mem_append_right _ h)) (gsub_f _))
set_option maxRecDepth 20000 in
theorem gX11_addText_X11_sign : GoodIn wsX11_addText (wsV RX11 113 RX11 yX11_sign wsX11_sign) := goodIn_app (goodIn_r _ [13, 14, 15, 10] (by decide +kernel) (by decide +kernel)) ggX11_addText_X11_sign
set_option maxRecDepth 20000 in
theorem ggX11_addText_X11_fails : GoodIn wsX11_addText wsX11_fails := goodIn_r _ [23, 1, 33, 34, 35, 36, 37, 38, 39, 40, 41, 42, 43, 44, 45, 46, 47, 48, 49, 50, 51, 52, 53, 54, 55, 56, 57, 58, 59, 60, 61, 62] (by decide +kernel) (by decide +kernel)
set_option maxRecDepth 20000 in
theorem gX11_addText_X11_fails : GoodIn wsX11_addText (wsV RX11 109 RX11 yX11_fails wsX11_fails) := goodIn_app (goodIn_r _ [20, 21, 22, 10] (by decide +kernel) (by decide +kernel)) ggX11_addText_X11_fails
set_option maxRecDepth 20000 in
theorem ggX11_addText_X11_bits : GoodIn wsX11_addText wsX11_bits := goodIn_r _ [26] (by decide +kernel) (by decide +kernel)
set_option maxRecDepth 20000 in
theorem gX11_addText_X11_bits : GoodIn wsX11_addText (va_wsS RX11 120 yX11_bits wsX11_bits) := goodIn_app (goodIn_r _ [24, 25, 10] (by decide +kernel) (by decide +kernel)) ggX11_addText_X11_bits
set_option maxRecDepth 20000 in
theorem ggX11_addText_X11_keeps : GoodIn wsX11_addText wsX11_keeps := goodIn_ca (goodIn_r _ [30, 31, 32, 5, 33, 34, 35, 36, 37, 38, 39, 40, 41, 42, 43, 44, 45, 46, 47, 48, 49, 50, 51, 52, 53, 54, 55, 56, 57, 58, 59, 60, 61, 62] (by decide +kernel) (by decide +kernel)) (goodIn_sub (fun _ h => List.mem_cons_of_mem _ (List.mem_append_right _ h)) (gsub_f _))
set_option maxRecDepth 20000 in
theorem gX11_addText_X11_keeps : GoodIn wsX11_addText (wsV RX11 123 RX11 yX11_keeps wsX11_keeps) := goodIn_app (goodIn_r _ [27, 28, 29, 10] (by decide +kernel) (by decide +kernel)) ggX11_addText_X11_keeps
theorem dX11_addText_0 : decode cX11_addText 0 = .ok (.aload_n 0, 1) := by decide +kernel
theorem dX11_addText_1 : decode cX11_addText 1 = .ok (.iconst 0, 1) := by decide +kernel
theorem dX11_addText_2 : decode cX11_addText 2 = .ok (.putfield 1, 3) := by decide +kernel
theorem dX11_addText_5 : decode cX11_addText 5 = .ok (.aload_n 0, 1) := by decide +kernel
theorem dX11_addText_6 : decode cX11_addText 6 = .ok (.iconst 0, 1) := by decide +kernel
theorem dX11_addText_7 : decode cX11_addText 7 = .ok (.putfield 36, 3) := by decide +kernel
theorem dX11_addText_10 : decode cX11_addText 10 = .ok (.aload_n 0, 1) := by decide +kernel
theorem dX11_addText_11 : decode cX11_addText 11 = .ok (.iconst (-1), 1) := by decide +kernel
theorem dX11_addText_12 : decode cX11_addText 12 = .ok (.putfield 39, 3) := by decide +kernel
theorem dX11_addText_15 : decode cX11_addText 15 = .ok (.iconst 0, 1) := by decide +kernel
theorem dX11_addText_16 : decode cX11_addText 16 = .ok (.istore_n 1, 1) := by decide +kernel
theorem dX11_addText_17 : decode cX11_addText 17 = .ok (.iload_n 1, 1) := by decide +kernel
theorem dX11_addText_18 : decode cX11_addText 18 = .ok (.bipush 15, 2) := by decide +kernel
theorem dX11_addText_20 : decode cX11_addText 20 = .ok (.if_icmp .gt 21, 3) := by decide +kernel
theorem dX11_addText_23 : decode cX11_addText 23 = .ok (.aload_n 0, 1) := by decide +kernel
theorem dX11_addText_24 : decode cX11_addText 24 = .ok (.getfield 42, 3) := by decide +kernel
theorem dX11_addText_27 : decode cX11_addText 27 = .ok (.iload_n 1, 1) := by decide +kernel
theorem dX11_addText_28 : decode cX11_addText 28 = .ok (.aload_n 0, 1) := by decide +kernel
theorem dX11_addText_29 : decode cX11_addText 29 = .ok (.getfield 13, 3) := by decide +kernel
theorem dX11_addText_32 : decode cX11_addText 32 = .ok (.iload_n 1, 1) := by decide +kernel
theorem dX11_addText_33 : decode cX11_addText 33 = .ok (.iaload, 1) := by decide +kernel
theorem dX11_addText_34 : decode cX11_addText 34 = .ok (.iastore, 1) := by decide +kernel
theorem dX11_addText_35 : decode cX11_addText 35 = .ok (.iinc 1 1, 3) := by decide +kernel
theorem dX11_addText_38 : decode cX11_addText 38 = .ok (.goto (-21), 3) := by decide +kernel
theorem dX11_addText_41 : decode cX11_addText 41 = .ok (.aload_n 0, 1) := by decide +kernel
theorem dX11_addText_42 : decode cX11_addText 42 = .ok (.invokevirtual 117, 3) := by decide +kernel
theorem dX11_addText_45 : decode cX11_addText 45 = .ok (.aload_n 0, 1) := by decide +kernel
theorem dX11_addText_46 : decode cX11_addText 46 = .ok (.getfield 39, 3) := by decide +kernel
theorem dX11_addText_49 : decode cX11_addText 49 = .ok (.ifCond .ge 37, 3) := by decide +kernel
theorem dX11_addText_52 : decode cX11_addText 52 = .ok (.aload_n 0, 1) := by decide +kernel
theorem dX11_addText_53 : decode cX11_addText 53 = .ok (.getfield 36, 3) := by decide +kernel
theorem dX11_addText_56 : decode cX11_addText 56 = .ok (.aload_n 0, 1) := by decide +kernel
theorem dX11_addText_57 : decode cX11_addText 57 = .ok (.getfield 33, 3) := by decide +kernel
theorem dX11_addText_60 : decode cX11_addText 60 = .ok (.if_icmp .ge 26, 3) := by decide +kernel
theorem dX11_addText_63 : decode cX11_addText 63 = .ok (.aload_n 0, 1) := by decide +kernel
theorem dX11_addText_64 : decode cX11_addText 64 = .ok (.bipush 44, 2) := by decide +kernel
theorem dX11_addText_66 : decode cX11_addText 66 = .ok (.bipush 44, 2) := by decide +kernel
theorem dX11_addText_68 : decode cX11_addText 68 = .ok (.invokevirtual 113, 3) := by decide +kernel
theorem dX11_addText_71 : decode cX11_addText 71 = .ok (.istore_n 1, 1) := by decide +kernel
theorem dX11_addText_72 : decode cX11_addText 72 = .ok (.aload_n 0, 1) := by decide +kernel
theorem dX11_addText_73 : decode cX11_addText 73 = .ok (.getfield 39, 3) := by decide +kernel
theorem dX11_addText_76 : decode cX11_addText 76 = .ok (.ifCond .ge 7, 3) := by decide +kernel
theorem dX11_addText_79 : decode cX11_addText 79 = .ok (.aload_n 0, 1) := by decide +kernel
theorem dX11_addText_80 : decode cX11_addText 80 = .ok (.invokevirtual 117, 3) := by decide +kernel
theorem dX11_addText_83 : decode cX11_addText 83 = .ok (.goto (-38), 3) := by decide +kernel
theorem dX11_addText_86 : decode cX11_addText 86 = .ok (.aload_n 0, 1) := by decide +kernel
theorem dX11_addText_87 : decode cX11_addText 87 = .ok (.iconst 0, 1) := by decide +kernel
theorem dX11_addText_88 : decode cX11_addText 88 = .ok (.putfield 33, 3) := by decide +kernel
theorem dX11_addText_91 : decode cX11_addText 91 = .ok (.aload_n 0, 1) := by decide +kernel
theorem dX11_addText_92 : decode cX11_addText 92 = .ok (.getfield 39, 3) := by decide +kernel
theorem dX11_addText_95 : decode cX11_addText 95 = .ok (.ifCond .lt 9, 3) := by decide +kernel
theorem dX11_addText_98 : decode cX11_addText 98 = .ok (.aload_n 0, 1) := by decide +kernel
theorem dX11_addText_99 : decode cX11_addText 99 = .ok (.iconst 1, 1) := by decide +kernel
theorem dX11_addText_100 : decode cX11_addText 100 = .ok (.invokevirtual 109, 3) := by decide +kernel
theorem dX11_addText_103 : decode cX11_addText 103 = .ok (.ireturn, 1) := by decide +kernel
theorem dX11_addText_104 : decode cX11_addText 104 = .ok (.iconst 0, 1) := by decide +kernel
theorem dX11_addText_105 : decode cX11_addText 105 = .ok (.istore_n 1, 1) := by decide +kernel
theorem dX11_addText_106 : decode cX11_addText 106 = .ok (.iconst 0, 1) := by decide +kernel
theorem dX11_addText_107 : decode cX11_addText 107 = .ok (.istore_n 2, 1) := by decide +kernel
theorem dX11_addText_108 : decode cX11_addText 108 = .ok (.iload_n 2, 1) := by decide +kernel
theorem dX11_addText_109 : decode cX11_addText 109 = .ok (.bipush 15, 2) := by decide +kernel
theorem dX11_addText_111 : decode cX11_addText 111 = .ok (.if_icmp .ge 21, 3) := by decide +kernel
theorem dX11_addText_114 : decode cX11_addText 114 = .ok (.iload_n 1, 1) := by decide +kernel
theorem dX11_addText_115 : decode cX11_addText 115 = .ok (.aload_n 0, 1) := by decide +kernel
theorem dX11_addText_116 : decode cX11_addText 116 = .ok (.getfield 42, 3) := by decide +kernel
theorem dX11_addText_119 : decode cX11_addText 119 = .ok (.iload_n 2, 1) := by decide +kernel
theorem dX11_addText_120 : decode cX11_addText 120 = .ok (.iaload, 1) := by decide +kernel
theorem dX11_addText_121 : decode cX11_addText 121 = .ok (.invokestatic 120, 3) := by decide +kernel
theorem dX11_addText_124 : decode cX11_addText 124 = .ok (.iadd, 1) := by decide +kernel
theorem dX11_addText_125 : decode cX11_addText 125 = .ok (.istore_n 1, 1) := by decide +kernel
theorem dX11_addText_126 : decode cX11_addText 126 = .ok (.iinc 2 1, 3) := by decide +kernel
theorem dX11_addText_129 : decode cX11_addText 129 = .ok (.goto (-21), 3) := by decide +kernel
theorem dX11_addText_132 : decode cX11_addText 132 = .ok (.iload_n 1, 1) := by decide +kernel
theorem dX11_addText_133 : decode cX11_addText 133 = .ok (.bipush 15, 2) := by decide +kernel
theorem dX11_addText_135 : decode cX11_addText 135 = .ok (.if_icmp .le 9, 3) := by decide +kernel
theorem dX11_addText_138 : decode cX11_addText 138 = .ok (.aload_n 0, 1) := by decide +kernel
theorem dX11_addText_139 : decode cX11_addText 139 = .ok (.iconst 2, 1) := by decide +kernel
theorem dX11_addText_140 : decode cX11_addText 140 = .ok (.invokevirtual 109, 3) := by decide +kernel
theorem dX11_addText_143 : decode cX11_addText 143 = .ok (.ireturn, 1) := by decide +kernel
theorem dX11_addText_144 : decode cX11_addText 144 = .ok (.aload_n 0, 1) := by decide +kernel
theorem dX11_addText_145 : decode cX11_addText 145 = .ok (.invokevirtual 123, 3) := by decide +kernel
theorem dX11_addText_148 : decode cX11_addText 148 = .ok (.iconst 0, 1) := by decide +kernel
theorem dX11_addText_149 : decode cX11_addText 149 = .ok (.istore_n 2, 1) := by decide +kernel
theorem dX11_addText_150 : decode cX11_addText 150 = .ok (.iload_n 2, 1) := by decide +kernel
theorem dX11_addText_151 : decode cX11_addText 151 = .ok (.bipush 15, 2) := by decide +kernel
theorem dX11_addText_153 : decode cX11_addText 153 = .ok (.if_icmp .gt 21, 3) := by decide +kernel
theorem dX11_addText_156 : decode cX11_addText 156 = .ok (.aload_n 0, 1) := by decide +kernel
theorem dX11_addText_157 : decode cX11_addText 157 = .ok (.getfield 13, 3) := by decide +kernel
theorem dX11_addText_160 : decode cX11_addText 160 = .ok (.iload_n 2, 1) := by decide +kernel
theorem dX11_addText_161 : decode cX11_addText 161 = .ok (.aload_n 0, 1) := by decide +kernel
theorem dX11_addText_162 : decode cX11_addText 162 = .ok (.getfield 42, 3) := by decide +kernel
theorem dX11_addText_165 : decode cX11_addText 165 = .ok (.iload_n 2, 1) := by decide +kernel
theorem dX11_addText_166 : decode cX11_addText 166 = .ok (.iaload, 1) := by decide +kernel
theorem dX11_addText_167 : decode cX11_addText 167 = .ok (.iastore, 1) := by decide +kernel
theorem dX11_addText_168 : decode cX11_addText 168 = .ok (.iinc 2 1, 3) := by decide +kernel
theorem dX11_addText_171 : decode cX11_addText 171 = .ok (.goto (-21), 3) := by decide +kernel
theorem dX11_addText_174 : decode cX11_addText 174 = .ok (.iload_n 1, 1) := by decide +kernel
theorem dX11_addText_175 : decode cX11_addText 175 = .ok (.ireturn, 1) := by decide +kernel
set_option maxRecDepth 20000 in
theorem ggX11_addTransition_X11_isState : GoodIn wsX11_addTransition wsX11_isState := goodIn_r _ [6, 7, 8, 5, 9] (by decide +kernel) (by decide +kernel)
set_option maxRecDepth 20000 in
theorem gX11_addTransition_X11_isState : GoodIn wsX11_addTransition (va_wsS RX11 126 yX11_isState wsX11_isState) := goodIn_app (goodIn_r _ [3, 4, 5] (by decide +kernel) (by decide +kernel)) ggX11_addTransition_X11_isState
set_option maxRecDepth 20000 in
theorem ggX11_addTransition_X11_isLetter : GoodIn wsX11_addTransition wsX11_isLetter := goodIn_r _ [12, 7, 8, 5, 9] (by decide +kernel) (by decide +kernel)
set_option maxRecDepth 20000 in
theorem gX11_addTransition_X11_isLetter : GoodIn wsX11_addTransition (va_wsS RX11 130 yX11_isLetter wsX11_isLetter) := goodIn_app (goodIn_r _ [10, 11, 5] (by decide +kernel) (by decide +kernel)) ggX11_addTransition_X11_isLetter
set_option maxRecDepth 20000 in
theorem ggX11_addTransition_X11_fails : GoodIn wsX11_addTransition wsX11_fails := goodIn_r _ [16, 1, 37, 38, 39, 40, 41, 42, 43, 44, 45, 46, 47, 48, 49, 50, 51, 52, 53, 54, 55, 56, 57, 58, 59, 60, 61, 62, 63, 64, 65, 66] (by decide +kernel) (by decide +kernel)
set_option maxRecDepth 20000 in
theorem gX11_addTransition_X11_fails : GoodIn wsX11_addTransition (wsV RX11 109 RX11 yX11_fails wsX11_fails) := goodIn_app (goodIn_r _ [13, 14, 15, 5] (by decide +kernel) (by decide +kernel)) ggX11_addTransition_X11_fails
set_option maxRecDepth 20000 in
theorem ggX11_addTransition_X11_next : GoodIn wsX11_addTransition wsX11_next := goodIn_ca (goodIn_r _ [20, 2, 37, 38, 39, 40, 41, 42, 43, 44, 45, 46, 47, 48, 49, 50, 51, 52, 53, 54, 55, 56, 57, 58, 59, 60, 61, 62, 63, 64, 65, 66] (by decide +kernel) (by decide +kernel)) (goodIn_sub (fun _ h => List.mem_cons_of_mem _ (List.mem_append_right _ h)) (gsub_f _))
set_option maxRecDepth 20000 in
theorem gX11_addTransition_X11_next : GoodIn wsX11_addTransition (wsV RX11 133 RX11 yX11_next wsX11_next) := goodIn_app (goodIn_r _ [17, 18, 19, 5] (by decide +kernel) (by decide +kernel)) ggX11_addTransition_X11_next
set_option maxRecDepth 20000 in
theorem ggX11_addTransition_X11_has : GoodIn wsX11_addTransition wsX11_has := goodIn_r _ [23] (by decide +kernel) (by decide +kernel)
set_option maxRecDepth 20000 in
theorem gX11_addTransition_X11_has : GoodIn wsX11_addTransition (va_wsS RX11 136 yX11_has wsX11_has) := goodIn_app (goodIn_r _ [21, 22, 5] (by decide +kernel) (by decide +kernel)) ggX11_addTransition_X11_has
set_option maxRecDepth 20000 in
theorem ggX11_addTransition_X11_transitionCount : GoodIn wsX11_addTransition wsX11_transitionCount := goodIn_ca (goodIn_r _ [27, 2, 28, 29, 5, 30, 37, 38, 39, 40, 41, 42, 43, 44, 45, 46, 47, 48, 49, 50, 51, 52, 53, 54, 55, 56, 57, 58, 59, 60, 61, 62, 63, 64, 65, 66] (by decide +kernel) (by decide +kernel)) (goodIn_sub (fun _ h => List.mem_cons_of_mem _ (List.mem_append_right _ h)) (gsub_f _))
set_option maxRecDepth 20000 in
theorem gX11_addTransition_X11_transitionCount : GoodIn wsX11_addTransition (wsV RX11 140 RX11 yX11_transitionCount wsX11_transitionCount) := goodIn_app (goodIn_r _ [24, 25, 26, 5] (by decide +kernel) (by decide +kernel)) ggX11_addTransition_X11_transitionCount
set_option maxRecDepth 20000 in
theorem ggX11_addTransition_X11_keeps : GoodIn wsX11_addTransition wsX11_keeps := goodIn_ca (goodIn_r _ [34, 35, 36, 2, 37, 38, 39, 40, 41, 42, 43, 44, 45, 46, 47, 48, 49, 50, 51, 52, 53, 54, 55, 56, 57, 58, 59, 60, 61, 62, 63, 64, 65, 66] (by decide +kernel) (by decide +kernel)) (goodIn_sub (fun _ h => List.mem_cons_of_mem _ (List.mem_append_right _ h)) (gsub_f _))
set_option maxRecDepth 20000 in
theorem gX11_addTransition_X11_keeps : GoodIn wsX11_addTransition (wsV RX11 123 RX11 yX11_keeps wsX11_keeps) := goodIn_app (goodIn_r _ [31, 32, 33, 5] (by decide +kernel) (by decide +kernel)) ggX11_addTransition_X11_keeps
theorem dX11_addTransition_0 : decode cX11_addTransition 0 = .ok (.aload_n 0, 1) := by decide +kernel
theorem dX11_addTransition_1 : decode cX11_addTransition 1 = .ok (.iconst 0, 1) := by decide +kernel
theorem dX11_addTransition_2 : decode cX11_addTransition 2 = .ok (.putfield 1, 3) := by decide +kernel
theorem dX11_addTransition_5 : decode cX11_addTransition 5 = .ok (.iload_n 1, 1) := by decide +kernel
theorem dX11_addTransition_6 : decode cX11_addTransition 6 = .ok (.invokestatic 126, 3) := by decide +kernel
theorem dX11_addTransition_9 : decode cX11_addTransition 9 = .ok (.ifCond .eq 17, 3) := by decide +kernel
theorem dX11_addTransition_12 : decode cX11_addTransition 12 = .ok (.iload_n 2, 1) := by decide +kernel
theorem dX11_addTransition_13 : decode cX11_addTransition 13 = .ok (.invokestatic 130, 3) := by decide +kernel
theorem dX11_addTransition_16 : decode cX11_addTransition 16 = .ok (.ifCond .eq 10, 3) := by decide +kernel
theorem dX11_addTransition_19 : decode cX11_addTransition 19 = .ok (.iload_n 3, 1) := by decide +kernel
theorem dX11_addTransition_20 : decode cX11_addTransition 20 = .ok (.invokestatic 126, 3) := by decide +kernel
theorem dX11_addTransition_23 : decode cX11_addTransition 23 = .ok (.ifCond .ne 17, 3) := by decide +kernel
theorem dX11_addTransition_26 : decode cX11_addTransition 26 = .ok (.aload_n 0, 1) := by decide +kernel
theorem dX11_addTransition_27 : decode cX11_addTransition 27 = .ok (.iconst 1, 1) := by decide +kernel
theorem dX11_addTransition_28 : decode cX11_addTransition 28 = .ok (.invokevirtual 109, 3) := by decide +kernel
theorem dX11_addTransition_31 : decode cX11_addTransition 31 = .ok (.ifCond .le 7, 3) := by decide +kernel
theorem dX11_addTransition_34 : decode cX11_addTransition 34 = .ok (.iconst 1, 1) := by decide +kernel
theorem dX11_addTransition_35 : decode cX11_addTransition 35 = .ok (.goto 4, 3) := by decide +kernel
theorem dX11_addTransition_38 : decode cX11_addTransition 38 = .ok (.iconst 0, 1) := by decide +kernel
theorem dX11_addTransition_39 : decode cX11_addTransition 39 = .ok (.ireturn, 1) := by decide +kernel
theorem dX11_addTransition_40 : decode cX11_addTransition 40 = .ok (.aload_n 0, 1) := by decide +kernel
theorem dX11_addTransition_41 : decode cX11_addTransition 41 = .ok (.iload_n 1, 1) := by decide +kernel
theorem dX11_addTransition_42 : decode cX11_addTransition 42 = .ok (.iload_n 2, 1) := by decide +kernel
theorem dX11_addTransition_43 : decode cX11_addTransition 43 = .ok (.invokevirtual 133, 3) := by decide +kernel
theorem dX11_addTransition_46 : decode cX11_addTransition 46 = .ok (.iload_n 3, 1) := by decide +kernel
theorem dX11_addTransition_47 : decode cX11_addTransition 47 = .ok (.invokestatic 136, 3) := by decide +kernel
theorem dX11_addTransition_50 : decode cX11_addTransition 50 = .ok (.ifCond .ne 7, 3) := by decide +kernel
theorem dX11_addTransition_53 : decode cX11_addTransition 53 = .ok (.iconst 1, 1) := by decide +kernel
theorem dX11_addTransition_54 : decode cX11_addTransition 54 = .ok (.goto 4, 3) := by decide +kernel
theorem dX11_addTransition_57 : decode cX11_addTransition 57 = .ok (.iconst 0, 1) := by decide +kernel
theorem dX11_addTransition_58 : decode cX11_addTransition 58 = .ok (.istore 4, 2) := by decide +kernel
theorem dX11_addTransition_60 : decode cX11_addTransition 60 = .ok (.iload 4, 2) := by decide +kernel
theorem dX11_addTransition_62 : decode cX11_addTransition 62 = .ok (.ifCond .eq 26, 3) := by decide +kernel
theorem dX11_addTransition_65 : decode cX11_addTransition 65 = .ok (.aload_n 0, 1) := by decide +kernel
theorem dX11_addTransition_66 : decode cX11_addTransition 66 = .ok (.invokevirtual 140, 3) := by decide +kernel
theorem dX11_addTransition_69 : decode cX11_addTransition 69 = .ok (.bipush 15, 2) := by decide +kernel
theorem dX11_addTransition_71 : decode cX11_addTransition 71 = .ok (.if_icmp .ne 17, 3) := by decide +kernel
theorem dX11_addTransition_74 : decode cX11_addTransition 74 = .ok (.aload_n 0, 1) := by decide +kernel
theorem dX11_addTransition_75 : decode cX11_addTransition 75 = .ok (.iconst 2, 1) := by decide +kernel
theorem dX11_addTransition_76 : decode cX11_addTransition 76 = .ok (.invokevirtual 109, 3) := by decide +kernel
theorem dX11_addTransition_79 : decode cX11_addTransition 79 = .ok (.ifCond .le 7, 3) := by decide +kernel
theorem dX11_addTransition_82 : decode cX11_addTransition 82 = .ok (.iconst 1, 1) := by decide +kernel
theorem dX11_addTransition_83 : decode cX11_addTransition 83 = .ok (.goto 4, 3) := by decide +kernel
theorem dX11_addTransition_86 : decode cX11_addTransition 86 = .ok (.iconst 0, 1) := by decide +kernel
theorem dX11_addTransition_87 : decode cX11_addTransition 87 = .ok (.ireturn, 1) := by decide +kernel
theorem dX11_addTransition_88 : decode cX11_addTransition 88 = .ok (.aload_n 0, 1) := by decide +kernel
theorem dX11_addTransition_89 : decode cX11_addTransition 89 = .ok (.invokevirtual 123, 3) := by decide +kernel
theorem dX11_addTransition_92 : decode cX11_addTransition 92 = .ok (.aload_n 0, 1) := by decide +kernel
theorem dX11_addTransition_93 : decode cX11_addTransition 93 = .ok (.getfield 13, 3) := by decide +kernel
theorem dX11_addTransition_96 : decode cX11_addTransition 96 = .ok (.iconst 3, 1) := by decide +kernel
theorem dX11_addTransition_97 : decode cX11_addTransition 97 = .ok (.iload_n 1, 1) := by decide +kernel
theorem dX11_addTransition_98 : decode cX11_addTransition 98 = .ok (.imul, 1) := by decide +kernel
theorem dX11_addTransition_99 : decode cX11_addTransition 99 = .ok (.iload_n 2, 1) := by decide +kernel
theorem dX11_addTransition_100 : decode cX11_addTransition 100 = .ok (.iadd, 1) := by decide +kernel
theorem dX11_addTransition_101 : decode cX11_addTransition 101 = .ok (.dup2, 1) := by decide +kernel
theorem dX11_addTransition_102 : decode cX11_addTransition 102 = .ok (.iaload, 1) := by decide +kernel
theorem dX11_addTransition_103 : decode cX11_addTransition 103 = .ok (.iconst 1, 1) := by decide +kernel
theorem dX11_addTransition_104 : decode cX11_addTransition 104 = .ok (.iload_n 3, 1) := by decide +kernel
theorem dX11_addTransition_105 : decode cX11_addTransition 105 = .ok (.ishl, 1) := by decide +kernel
theorem dX11_addTransition_106 : decode cX11_addTransition 106 = .ok (.ior, 1) := by decide +kernel
theorem dX11_addTransition_107 : decode cX11_addTransition 107 = .ok (.iastore, 1) := by decide +kernel
theorem dX11_addTransition_108 : decode cX11_addTransition 108 = .ok (.iload 4, 2) := by decide +kernel
theorem dX11_addTransition_110 : decode cX11_addTransition 110 = .ok (.ireturn, 1) := by decide +kernel
set_option maxRecDepth 20000 in
theorem ggX11_removeTransition_X11_isState : GoodIn wsX11_removeTransition wsX11_isState := goodIn_r _ [6, 7, 8, 5, 9] (by decide +kernel) (by decide +kernel)
set_option maxRecDepth 20000 in
theorem gX11_removeTransition_X11_isState : GoodIn wsX11_removeTransition (va_wsS RX11 126 yX11_isState wsX11_isState) := goodIn_app (goodIn_r _ [3, 4, 5] (by decide +kernel) (by decide +kernel)) ggX11_removeTransition_X11_isState
set_option maxRecDepth 20000 in
theorem ggX11_removeTransition_X11_isLetter : GoodIn wsX11_removeTransition wsX11_isLetter := goodIn_r _ [12, 7, 8, 5, 9] (by decide +kernel) (by decide +kernel)
set_option maxRecDepth 20000 in
theorem gX11_removeTransition_X11_isLetter : GoodIn wsX11_removeTransition (va_wsS RX11 130 yX11_isLetter wsX11_isLetter) := goodIn_app (goodIn_r _ [10, 11, 5] (by decide +kernel) (by decide +kernel)) ggX11_removeTransition_X11_isLetter
set_option maxRecDepth 20000 in
theorem ggX11_removeTransition_X11_next : GoodIn wsX11_removeTransition wsX11_next := goodIn_ca (goodIn_r _ [16, 2, 26, 27, 28, 29, 30, 31, 32, 33, 34, 35, 36, 37, 38, 39, 40, 41, 42, 43, 44, 45, 46, 47, 48, 49, 50, 51, 52, 53, 54, 55] (by decide +kernel) (by decide +kernel)) (goodIn_sub (fun _ h => List.mem_cons_of_mem _ (List.mem_append_right _ h)) (gsub_f _))
set_option maxRecDepth 20000 in
theorem gX11_removeTransition_X11_next : GoodIn wsX11_removeTransition (wsV RX11 133 RX11 yX11_next wsX11_next) := goodIn_app (goodIn_r _ [13, 14, 15, 5] (by decide +kernel) (by decide +kernel)) ggX11_removeTransition_X11_next
set_option maxRecDepth 20000 in
theorem ggX11_removeTransition_X11_has : GoodIn wsX11_removeTransition wsX11_has := goodIn_r _ [19] (by decide +kernel) (by decide +kernel)
set_option maxRecDepth 20000 in
theorem gX11_removeTransition_X11_has : GoodIn wsX11_removeTransition (va_wsS RX11 136 yX11_has wsX11_has) := goodIn_app (goodIn_r _ [17, 18, 5] (by decide +kernel) (by decide +kernel)) ggX11_removeTransition_X11_has
set_option maxRecDepth 20000 in
theorem ggX11_removeTransition_X11_keeps : GoodIn wsX11_removeTransition wsX11_keeps := goodIn_ca (goodIn_r _ [23, 24, 25, 2, 26, 27, 28, 29, 30, 31, 32, 33, 34, 35, 36, 37, 38, 39, 40, 41, 42, 43, 44, 45, 46, 47, 48, 49, 50, 51, 52, 53, 54, 55] (by decide +kernel) (by decide +kernel)) (goodIn_sub (fun _ h => List.mem_cons_of_mem _ (List.mem_append_right _ h)) (gsub_f _))
set_option maxRecDepth 20000 in
theorem gX11_removeTransition_X11_keeps : GoodIn wsX11_removeTransition (wsV RX11 123 RX11 yX11_keeps wsX11_keeps) := goodIn_app (goodIn_r _ [20, 21, 22, 5] (by decide +kernel) (by decide +kernel)) ggX11_removeTransition_X11_keeps
theorem dX11_removeTransition_0 : decode cX11_removeTransition 0 = .ok (.aload_n 0, 1) := by decide +kernel
theorem dX11_removeTransition_1 : decode cX11_removeTransition 1 = .ok (.iconst 0, 1) := by decide +kernel
theorem dX11_removeTransition_2 : decode cX11_removeTransition 2 = .ok (.putfield 1, 3) := by decide +kernel
theorem dX11_removeTransition_5 : decode cX11_removeTransition 5 = .ok (.iload_n 1, 1) := by decide +kernel
theorem dX11_removeTransition_6 : decode cX11_removeTransition 6 = .ok (.invokestatic 126, 3) := by decide +kernel
theorem dX11_removeTransition_9 : decode cX11_removeTransition 9 = .ok (.ifCond .eq 17, 3) := by decide +kernel
theorem dX11_removeTransition_12 : decode cX11_removeTransition 12 = .ok (.iload_n 2, 1) := by decide +kernel
theorem dX11_removeTransition_13 : decode cX11_removeTransition 13 = .ok (.invokestatic 130, 3) := by decide +kernel
theorem dX11_removeTransition_16 : decode cX11_removeTransition 16 = .ok (.ifCond .eq 10, 3) := by decide +kernel
theorem dX11_removeTransition_19 : decode cX11_removeTransition 19 = .ok (.iload_n 3, 1) := by decide +kernel
theorem dX11_removeTransition_20 : decode cX11_removeTransition 20 = .ok (.invokestatic 126, 3) := by decide +kernel
theorem dX11_removeTransition_23 : decode cX11_removeTransition 23 = .ok (.ifCond .ne 9, 3) := by decide +kernel
theorem dX11_removeTransition_26 : decode cX11_removeTransition 26 = .ok (.aload_n 0, 1) := by decide +kernel
theorem dX11_removeTransition_27 : decode cX11_removeTransition 27 = .ok (.iconst 1, 1) := by decide +kernel
theorem dX11_removeTransition_28 : decode cX11_removeTransition 28 = .ok (.putfield 1, 3) := by decide +kernel
theorem dX11_removeTransition_31 : decode cX11_removeTransition 31 = .ok (.return_, 1) := by decide +kernel
theorem dX11_removeTransition_32 : decode cX11_removeTransition 32 = .ok (.aload_n 0, 1) := by decide +kernel
theorem dX11_removeTransition_33 : decode cX11_removeTransition 33 = .ok (.iload_n 1, 1) := by decide +kernel
theorem dX11_removeTransition_34 : decode cX11_removeTransition 34 = .ok (.iload_n 2, 1) := by decide +kernel
theorem dX11_removeTransition_35 : decode cX11_removeTransition 35 = .ok (.invokevirtual 133, 3) := by decide +kernel
theorem dX11_removeTransition_38 : decode cX11_removeTransition 38 = .ok (.iload_n 3, 1) := by decide +kernel
theorem dX11_removeTransition_39 : decode cX11_removeTransition 39 = .ok (.invokestatic 136, 3) := by decide +kernel
theorem dX11_removeTransition_42 : decode cX11_removeTransition 42 = .ok (.ifCond .ne 9, 3) := by decide +kernel
theorem dX11_removeTransition_45 : decode cX11_removeTransition 45 = .ok (.aload_n 0, 1) := by decide +kernel
theorem dX11_removeTransition_46 : decode cX11_removeTransition 46 = .ok (.iconst 2, 1) := by decide +kernel
theorem dX11_removeTransition_47 : decode cX11_removeTransition 47 = .ok (.putfield 1, 3) := by decide +kernel
theorem dX11_removeTransition_50 : decode cX11_removeTransition 50 = .ok (.return_, 1) := by decide +kernel
theorem dX11_removeTransition_51 : decode cX11_removeTransition 51 = .ok (.aload_n 0, 1) := by decide +kernel
theorem dX11_removeTransition_52 : decode cX11_removeTransition 52 = .ok (.invokevirtual 123, 3) := by decide +kernel
theorem dX11_removeTransition_55 : decode cX11_removeTransition 55 = .ok (.aload_n 0, 1) := by decide +kernel
theorem dX11_removeTransition_56 : decode cX11_removeTransition 56 = .ok (.getfield 13, 3) := by decide +kernel
theorem dX11_removeTransition_59 : decode cX11_removeTransition 59 = .ok (.iconst 3, 1) := by decide +kernel
theorem dX11_removeTransition_60 : decode cX11_removeTransition 60 = .ok (.iload_n 1, 1) := by decide +kernel
theorem dX11_removeTransition_61 : decode cX11_removeTransition 61 = .ok (.imul, 1) := by decide +kernel
theorem dX11_removeTransition_62 : decode cX11_removeTransition 62 = .ok (.iload_n 2, 1) := by decide +kernel
theorem dX11_removeTransition_63 : decode cX11_removeTransition 63 = .ok (.iadd, 1) := by decide +kernel
theorem dX11_removeTransition_64 : decode cX11_removeTransition 64 = .ok (.dup2, 1) := by decide +kernel
theorem dX11_removeTransition_65 : decode cX11_removeTransition 65 = .ok (.iaload, 1) := by decide +kernel
theorem dX11_removeTransition_66 : decode cX11_removeTransition 66 = .ok (.iconst 1, 1) := by decide +kernel
theorem dX11_removeTransition_67 : decode cX11_removeTransition 67 = .ok (.iload_n 3, 1) := by decide +kernel
theorem dX11_removeTransition_68 : decode cX11_removeTransition 68 = .ok (.ishl, 1) := by decide +kernel
theorem dX11_removeTransition_69 : decode cX11_removeTransition 69 = .ok (.iconst (-1), 1) := by decide +kernel
theorem dX11_removeTransition_70 : decode cX11_removeTransition 70 = .ok (.ixor, 1) := by decide +kernel
theorem dX11_removeTransition_71 : decode cX11_removeTransition 71 = .ok (.iand, 1) := by decide +kernel
theorem dX11_removeTransition_72 : decode cX11_removeTransition 72 = .ok (.iastore, 1) := by decide +kernel
theorem dX11_removeTransition_73 : decode cX11_removeTransition 73 = .ok (.return_, 1) := by decide +kernel
set_option maxRecDepth 20000 in
theorem ggX11_setFinal_X11_isState : GoodIn wsX11_setFinal wsX11_isState := goodIn_r _ [6, 7, 8, 5, 9] (by decide +kernel) (by decide +kernel)
set_option maxRecDepth 20000 in
theorem gX11_setFinal_X11_isState : GoodIn wsX11_setFinal (va_wsS RX11 126 yX11_isState wsX11_isState) := goodIn_app (goodIn_of _ (by decide +kernel)) ggX11_setFinal_X11_isState
set_option maxRecDepth 20000 in
theorem ggX11_setFinal_X11_fails : GoodIn wsX11_setFinal wsX11_fails := goodIn_r _ [13, 1, 23, 24, 25, 26, 27, 28, 29, 30, 31, 32, 33, 34, 35, 36, 37, 38, 39, 40, 41, 42, 43, 44, 45, 46, 47, 48, 49, 50, 51, 52] (by decide +kernel) (by decide +kernel)
set_option maxRecDepth 20000 in
theorem gX11_setFinal_X11_fails : GoodIn wsX11_setFinal (wsV RX11 109 RX11 yX11_fails wsX11_fails) := goodIn_app (goodIn_of _ (by decide +kernel)) ggX11_setFinal_X11_fails
set_option maxRecDepth 20000 in
theorem ggX11_setFinal_X11_has : GoodIn wsX11_setFinal wsX11_has := goodIn_r _ [16] (by decide +kernel) (by decide +kernel)
set_option maxRecDepth 20000 in
theorem gX11_setFinal_X11_has : GoodIn wsX11_setFinal (va_wsS RX11 136 yX11_has wsX11_has) := goodIn_app (goodIn_of _ (by decide +kernel)) ggX11_setFinal_X11_has
set_option maxRecDepth 20000 in
theorem ggX11_setFinal_X11_keeps : GoodIn wsX11_setFinal wsX11_keeps := goodIn_ca (goodIn_r _ [20, 21, 22, 2, 23, 24, 25, 26, 27, 28, 29, 30, 31, 32, 33, 34, 35, 36, 37, 38, 39, 40, 41, 42, 43, 44, 45, 46, 47, 48, 49, 50, 51, 52] (by decide +kernel) (by decide +kernel)) (goodIn_sub (fun _ h => List.mem_cons_of_mem _ (List.mem_append_right _ h)) (gsub_f _))
set_option maxRecDepth 20000 in
theorem gX11_setFinal_X11_keeps : GoodIn wsX11_setFinal (wsV RX11 123 RX11 yX11_keeps wsX11_keeps) := goodIn_app (goodIn_of _ (by decide +kernel)) ggX11_setFinal_X11_keeps
theorem dX11_setFinal_0 : decode cX11_setFinal 0 = .ok (.aload_n 0, 1) := by decide +kernel
theorem dX11_setFinal_1 : decode cX11_setFinal 1 = .ok (.iconst 0, 1) := by decide +kernel
theorem dX11_setFinal_2 : decode cX11_setFinal 2 = .ok (.putfield 1, 3) := by decide +kernel
theorem dX11_setFinal_5 : decode cX11_setFinal 5 = .ok (.iload_n 1, 1) := by decide +kernel
theorem dX11_setFinal_6 : decode cX11_setFinal 6 = .ok (.invokestatic 126, 3) := by decide +kernel
theorem dX11_setFinal_9 : decode cX11_setFinal 9 = .ok (.ifCond .ne 17, 3) := by decide +kernel
theorem dX11_setFinal_12 : decode cX11_setFinal 12 = .ok (.aload_n 0, 1) := by decide +kernel
theorem dX11_setFinal_13 : decode cX11_setFinal 13 = .ok (.iconst 1, 1) := by decide +kernel
theorem dX11_setFinal_14 : decode cX11_setFinal 14 = .ok (.invokevirtual 109, 3) := by decide +kernel
theorem dX11_setFinal_17 : decode cX11_setFinal 17 = .ok (.ifCond .le 7, 3) := by decide +kernel
theorem dX11_setFinal_20 : decode cX11_setFinal 20 = .ok (.iconst 1, 1) := by decide +kernel
theorem dX11_setFinal_21 : decode cX11_setFinal 21 = .ok (.goto 4, 3) := by decide +kernel
theorem dX11_setFinal_24 : decode cX11_setFinal 24 = .ok (.iconst 0, 1) := by decide +kernel
theorem dX11_setFinal_25 : decode cX11_setFinal 25 = .ok (.ireturn, 1) := by decide +kernel
theorem dX11_setFinal_26 : decode cX11_setFinal 26 = .ok (.aload_n 0, 1) := by decide +kernel
theorem dX11_setFinal_27 : decode cX11_setFinal 27 = .ok (.getfield 13, 3) := by decide +kernel
theorem dX11_setFinal_30 : decode cX11_setFinal 30 = .ok (.bipush 15, 2) := by decide +kernel
theorem dX11_setFinal_32 : decode cX11_setFinal 32 = .ok (.iaload, 1) := by decide +kernel
theorem dX11_setFinal_33 : decode cX11_setFinal 33 = .ok (.iload_n 1, 1) := by decide +kernel
theorem dX11_setFinal_34 : decode cX11_setFinal 34 = .ok (.invokestatic 136, 3) := by decide +kernel
theorem dX11_setFinal_37 : decode cX11_setFinal 37 = .ok (.istore_n 3, 1) := by decide +kernel
theorem dX11_setFinal_38 : decode cX11_setFinal 38 = .ok (.aload_n 0, 1) := by decide +kernel
theorem dX11_setFinal_39 : decode cX11_setFinal 39 = .ok (.invokevirtual 123, 3) := by decide +kernel
theorem dX11_setFinal_42 : decode cX11_setFinal 42 = .ok (.iload_n 2, 1) := by decide +kernel
theorem dX11_setFinal_43 : decode cX11_setFinal 43 = .ok (.ifCond .eq 19, 3) := by decide +kernel
theorem dX11_setFinal_46 : decode cX11_setFinal 46 = .ok (.aload_n 0, 1) := by decide +kernel
theorem dX11_setFinal_47 : decode cX11_setFinal 47 = .ok (.getfield 13, 3) := by decide +kernel
theorem dX11_setFinal_50 : decode cX11_setFinal 50 = .ok (.bipush 15, 2) := by decide +kernel
theorem dX11_setFinal_52 : decode cX11_setFinal 52 = .ok (.dup2, 1) := by decide +kernel
theorem dX11_setFinal_53 : decode cX11_setFinal 53 = .ok (.iaload, 1) := by decide +kernel
theorem dX11_setFinal_54 : decode cX11_setFinal 54 = .ok (.iconst 1, 1) := by decide +kernel
theorem dX11_setFinal_55 : decode cX11_setFinal 55 = .ok (.iload_n 1, 1) := by decide +kernel
theorem dX11_setFinal_56 : decode cX11_setFinal 56 = .ok (.ishl, 1) := by decide +kernel
theorem dX11_setFinal_57 : decode cX11_setFinal 57 = .ok (.ior, 1) := by decide +kernel
theorem dX11_setFinal_58 : decode cX11_setFinal 58 = .ok (.iastore, 1) := by decide +kernel
theorem dX11_setFinal_59 : decode cX11_setFinal 59 = .ok (.goto 18, 3) := by decide +kernel
theorem dX11_setFinal_62 : decode cX11_setFinal 62 = .ok (.aload_n 0, 1) := by decide +kernel
theorem dX11_setFinal_63 : decode cX11_setFinal 63 = .ok (.getfield 13, 3) := by decide +kernel
theorem dX11_setFinal_66 : decode cX11_setFinal 66 = .ok (.bipush 15, 2) := by decide +kernel
theorem dX11_setFinal_68 : decode cX11_setFinal 68 = .ok (.dup2, 1) := by decide +kernel
theorem dX11_setFinal_69 : decode cX11_setFinal 69 = .ok (.iaload, 1) := by decide +kernel
theorem dX11_setFinal_70 : decode cX11_setFinal 70 = .ok (.iconst 1, 1) := by decide +kernel
theorem dX11_setFinal_71 : decode cX11_setFinal 71 = .ok (.iload_n 1, 1) := by decide +kernel
theorem dX11_setFinal_72 : decode cX11_setFinal 72 = .ok (.ishl, 1) := by decide +kernel
theorem dX11_setFinal_73 : decode cX11_setFinal 73 = .ok (.iconst (-1), 1) := by decide +kernel
theorem dX11_setFinal_74 : decode cX11_setFinal 74 = .ok (.ixor, 1) := by decide +kernel
theorem dX11_setFinal_75 : decode cX11_setFinal 75 = .ok (.iand, 1) := by decide +kernel
theorem dX11_setFinal_76 : decode cX11_setFinal 76 = .ok (.iastore, 1) := by decide +kernel
theorem dX11_setFinal_77 : decode cX11_setFinal 77 = .ok (.iload_n 3, 1) := by decide +kernel
theorem dX11_setFinal_78 : decode cX11_setFinal 78 = .ok (.ireturn, 1) := by decide +kernel
set_option maxRecDepth 20000 in
theorem ggX11_clearAutomaton_X11_keeps : GoodIn wsX11_clearAutomaton wsX11_keeps := goodIn_ca (goodIn_r _ [6, 7, 8, 1, 9, 10, 11, 12, 13, 14, 15, 16, 17, 18, 19, 20, 21, 22, 23, 24, 25, 26, 27, 28, 29, 30, 31, 32, 33, 34, 35, 36, 37, 38] (by decide +kernel) (by decide +kernel)) (goodIn_sub (fun _ h => List.mem_cons_of_mem _ (List.mem_append_right _ h)) (gsub_f _))
set_option maxRecDepth 20000 in
theorem gX11_clearAutomaton_X11_keeps : GoodIn wsX11_clearAutomaton (wsV RX11 123 RX11 yX11_keeps wsX11_keeps) := goodIn_app (goodIn_of _ (by decide +kernel)) ggX11_clearAutomaton_X11_keeps
theorem dX11_clearAutomaton_0 : decode cX11_clearAutomaton 0 = .ok (.aload_n 0, 1) := by decide +kernel
theorem dX11_clearAutomaton_1 : decode cX11_clearAutomaton 1 = .ok (.invokevirtual 123, 3) := by decide +kernel
theorem dX11_clearAutomaton_4 : decode cX11_clearAutomaton 4 = .ok (.iconst 0, 1) := by decide +kernel
theorem dX11_clearAutomaton_5 : decode cX11_clearAutomaton 5 = .ok (.istore_n 1, 1) := by decide +kernel
theorem dX11_clearAutomaton_6 : decode cX11_clearAutomaton 6 = .ok (.iload_n 1, 1) := by decide +kernel
theorem dX11_clearAutomaton_7 : decode cX11_clearAutomaton 7 = .ok (.bipush 15, 2) := by decide +kernel
theorem dX11_clearAutomaton_9 : decode cX11_clearAutomaton 9 = .ok (.if_icmp .gt 16, 3) := by decide +kernel
theorem dX11_clearAutomaton_12 : decode cX11_clearAutomaton 12 = .ok (.aload_n 0, 1) := by decide +kernel
theorem dX11_clearAutomaton_13 : decode cX11_clearAutomaton 13 = .ok (.getfield 13, 3) := by decide +kernel
theorem dX11_clearAutomaton_16 : decode cX11_clearAutomaton 16 = .ok (.iload_n 1, 1) := by decide +kernel
theorem dX11_clearAutomaton_17 : decode cX11_clearAutomaton 17 = .ok (.iconst 0, 1) := by decide +kernel
theorem dX11_clearAutomaton_18 : decode cX11_clearAutomaton 18 = .ok (.iastore, 1) := by decide +kernel
theorem dX11_clearAutomaton_19 : decode cX11_clearAutomaton 19 = .ok (.iinc 1 1, 3) := by decide +kernel
theorem dX11_clearAutomaton_22 : decode cX11_clearAutomaton 22 = .ok (.goto (-16), 3) := by decide +kernel
theorem dX11_clearAutomaton_25 : decode cX11_clearAutomaton 25 = .ok (.return_, 1) := by decide +kernel
set_option maxRecDepth 20000 in
theorem ggX11_transitionCount_X11_bits : GoodIn wsX11_transitionCount wsX11_bits := goodIn_r _ [5] (by decide +kernel) (by decide +kernel)
set_option maxRecDepth 20000 in
theorem gX11_transitionCount_X11_bits : GoodIn wsX11_transitionCount (va_wsS RX11 120 yX11_bits wsX11_bits) := goodIn_app (goodIn_of _ (by decide +kernel)) ggX11_transitionCount_X11_bits
theorem dX11_transitionCount_0 : decode cX11_transitionCount 0 = .ok (.iconst 0, 1) := by decide +kernel
theorem dX11_transitionCount_1 : decode cX11_transitionCount 1 = .ok (.istore_n 1, 1) := by decide +kernel
theorem dX11_transitionCount_2 : decode cX11_transitionCount 2 = .ok (.iconst 0, 1) := by decide +kernel
theorem dX11_transitionCount_3 : decode cX11_transitionCount 3 = .ok (.istore_n 2, 1) := by decide +kernel
theorem dX11_transitionCount_4 : decode cX11_transitionCount 4 = .ok (.iload_n 2, 1) := by decide +kernel
theorem dX11_transitionCount_5 : decode cX11_transitionCount 5 = .ok (.bipush 15, 2) := by decide +kernel
theorem dX11_transitionCount_7 : decode cX11_transitionCount 7 = .ok (.if_icmp .ge 21, 3) := by decide +kernel
theorem dX11_transitionCount_10 : decode cX11_transitionCount 10 = .ok (.iload_n 1, 1) := by decide +kernel
theorem dX11_transitionCount_11 : decode cX11_transitionCount 11 = .ok (.aload_n 0, 1) := by decide +kernel
theorem dX11_transitionCount_12 : decode cX11_transitionCount 12 = .ok (.getfield 13, 3) := by decide +kernel
theorem dX11_transitionCount_15 : decode cX11_transitionCount 15 = .ok (.iload_n 2, 1) := by decide +kernel
theorem dX11_transitionCount_16 : decode cX11_transitionCount 16 = .ok (.iaload, 1) := by decide +kernel
theorem dX11_transitionCount_17 : decode cX11_transitionCount 17 = .ok (.invokestatic 120, 3) := by decide +kernel
theorem dX11_transitionCount_20 : decode cX11_transitionCount 20 = .ok (.iadd, 1) := by decide +kernel
theorem dX11_transitionCount_21 : decode cX11_transitionCount 21 = .ok (.istore_n 1, 1) := by decide +kernel
theorem dX11_transitionCount_22 : decode cX11_transitionCount 22 = .ok (.iinc 2 1, 3) := by decide +kernel
theorem dX11_transitionCount_25 : decode cX11_transitionCount 25 = .ok (.goto (-21), 3) := by decide +kernel
theorem dX11_transitionCount_28 : decode cX11_transitionCount 28 = .ok (.iload_n 1, 1) := by decide +kernel
theorem dX11_transitionCount_29 : decode cX11_transitionCount 29 = .ok (.ireturn, 1) := by decide +kernel
set_option maxRecDepth 20000 in
theorem ggX11_transition_X11_has : GoodIn wsX11_transition wsX11_has := goodIn_r _ [6] (by decide +kernel) (by decide +kernel)
set_option maxRecDepth 20000 in
theorem gX11_transition_X11_has : GoodIn wsX11_transition (va_wsS RX11 136 yX11_has wsX11_has) := goodIn_app (goodIn_of _ (by decide +kernel)) ggX11_transition_X11_has
set_option maxRecDepth 20000 in
theorem ggX11_transition_X11_fails : GoodIn wsX11_transition wsX11_fails := goodIn_r _ [10, 1, 11, 12, 13, 14, 15, 16, 17, 18, 19, 20, 21, 22, 23, 24, 25, 26, 27, 28, 29, 30, 31, 32, 33, 34, 35, 36, 37, 38, 39, 40] (by decide +kernel) (by decide +kernel)
set_option maxRecDepth 20000 in
theorem gX11_transition_X11_fails : GoodIn wsX11_transition (wsV RX11 109 RX11 yX11_fails wsX11_fails) := goodIn_app (goodIn_of _ (by decide +kernel)) ggX11_transition_X11_fails
theorem dX11_transition_0 : decode cX11_transition 0 = .ok (.aload_n 0, 1) := by decide +kernel
theorem dX11_transition_1 : decode cX11_transition 1 = .ok (.iconst 0, 1) := by decide +kernel
theorem dX11_transition_2 : decode cX11_transition 2 = .ok (.putfield 1, 3) := by decide +kernel
theorem dX11_transition_5 : decode cX11_transition 5 = .ok (.iload_n 1, 1) := by decide +kernel
theorem dX11_transition_6 : decode cX11_transition 6 = .ok (.istore_n 2, 1) := by decide +kernel
theorem dX11_transition_7 : decode cX11_transition 7 = .ok (.iconst 0, 1) := by decide +kernel
theorem dX11_transition_8 : decode cX11_transition 8 = .ok (.istore_n 3, 1) := by decide +kernel
theorem dX11_transition_9 : decode cX11_transition 9 = .ok (.iload_n 3, 1) := by decide +kernel
theorem dX11_transition_10 : decode cX11_transition 10 = .ok (.bipush 15, 2) := by decide +kernel
theorem dX11_transition_12 : decode cX11_transition 12 = .ok (.if_icmp .ge 69, 3) := by decide +kernel
theorem dX11_transition_15 : decode cX11_transition 15 = .ok (.iload_n 1, 1) := by decide +kernel
theorem dX11_transition_16 : decode cX11_transition 16 = .ok (.ifCond .lt 65, 3) := by decide +kernel
theorem dX11_transition_19 : decode cX11_transition 19 = .ok (.iconst 0, 1) := by decide +kernel
theorem dX11_transition_20 : decode cX11_transition 20 = .ok (.istore 4, 2) := by decide +kernel
theorem dX11_transition_22 : decode cX11_transition 22 = .ok (.iload 4, 2) := by decide +kernel
theorem dX11_transition_24 : decode cX11_transition 24 = .ok (.iconst 5, 1) := by decide +kernel
theorem dX11_transition_25 : decode cX11_transition 25 = .ok (.if_icmp .ge 50, 3) := by decide +kernel
theorem dX11_transition_28 : decode cX11_transition 28 = .ok (.aload_n 0, 1) := by decide +kernel
theorem dX11_transition_29 : decode cX11_transition 29 = .ok (.getfield 13, 3) := by decide +kernel
theorem dX11_transition_32 : decode cX11_transition 32 = .ok (.iload_n 3, 1) := by decide +kernel
theorem dX11_transition_33 : decode cX11_transition 33 = .ok (.iaload, 1) := by decide +kernel
theorem dX11_transition_34 : decode cX11_transition 34 = .ok (.iload 4, 2) := by decide +kernel
theorem dX11_transition_36 : decode cX11_transition 36 = .ok (.invokestatic 136, 3) := by decide +kernel
theorem dX11_transition_39 : decode cX11_transition 39 = .ok (.ifCond .ne 6, 3) := by decide +kernel
theorem dX11_transition_42 : decode cX11_transition 42 = .ok (.goto 27, 3) := by decide +kernel
theorem dX11_transition_45 : decode cX11_transition 45 = .ok (.iload_n 2, 1) := by decide +kernel
theorem dX11_transition_46 : decode cX11_transition 46 = .ok (.ifCond .ne 20, 3) := by decide +kernel
theorem dX11_transition_49 : decode cX11_transition 49 = .ok (.bipush 100, 2) := by decide +kernel
theorem dX11_transition_51 : decode cX11_transition 51 = .ok (.iload_n 3, 1) := by decide +kernel
theorem dX11_transition_52 : decode cX11_transition 52 = .ok (.iconst 3, 1) := by decide +kernel
theorem dX11_transition_53 : decode cX11_transition 53 = .ok (.idiv, 1) := by decide +kernel
theorem dX11_transition_54 : decode cX11_transition 54 = .ok (.imul, 1) := by decide +kernel
theorem dX11_transition_55 : decode cX11_transition 55 = .ok (.bipush 10, 2) := by decide +kernel
theorem dX11_transition_57 : decode cX11_transition 57 = .ok (.iload_n 3, 1) := by decide +kernel
theorem dX11_transition_58 : decode cX11_transition 58 = .ok (.iconst 3, 1) := by decide +kernel
theorem dX11_transition_59 : decode cX11_transition 59 = .ok (.irem, 1) := by decide +kernel
theorem dX11_transition_60 : decode cX11_transition 60 = .ok (.imul, 1) := by decide +kernel
theorem dX11_transition_61 : decode cX11_transition 61 = .ok (.iadd, 1) := by decide +kernel
theorem dX11_transition_62 : decode cX11_transition 62 = .ok (.iload 4, 2) := by decide +kernel
theorem dX11_transition_64 : decode cX11_transition 64 = .ok (.iadd, 1) := by decide +kernel
theorem dX11_transition_65 : decode cX11_transition 65 = .ok (.ireturn, 1) := by decide +kernel
theorem dX11_transition_66 : decode cX11_transition 66 = .ok (.iinc 2 (-1), 3) := by decide +kernel
theorem dX11_transition_69 : decode cX11_transition 69 = .ok (.iinc 4 1, 3) := by decide +kernel
theorem dX11_transition_72 : decode cX11_transition 72 = .ok (.goto (-50), 3) := by decide +kernel
theorem dX11_transition_75 : decode cX11_transition 75 = .ok (.iinc 3 1, 3) := by decide +kernel
theorem dX11_transition_78 : decode cX11_transition 78 = .ok (.goto (-69), 3) := by decide +kernel
theorem dX11_transition_81 : decode cX11_transition 81 = .ok (.aload_n 0, 1) := by decide +kernel
theorem dX11_transition_82 : decode cX11_transition 82 = .ok (.iconst 1, 1) := by decide +kernel
theorem dX11_transition_83 : decode cX11_transition 83 = .ok (.invokevirtual 109, 3) := by decide +kernel
theorem dX11_transition_86 : decode cX11_transition 86 = .ok (.ireturn, 1) := by decide +kernel
set_option maxRecDepth 20000 in
theorem ggX11_isDeterministic_X11_bits : GoodIn wsX11_isDeterministic wsX11_bits := goodIn_r _ [5] (by decide +kernel) (by decide +kernel)
set_option maxRecDepth 20000 in
theorem gX11_isDeterministic_X11_bits : GoodIn wsX11_isDeterministic (va_wsS RX11 120 yX11_bits wsX11_bits) := goodIn_app (goodIn_of _ (by decide +kernel)) ggX11_isDeterministic_X11_bits
theorem dX11_isDeterministic_0 : decode cX11_isDeterministic 0 = .ok (.iconst 0, 1) := by decide +kernel
theorem dX11_isDeterministic_1 : decode cX11_isDeterministic 1 = .ok (.istore_n 1, 1) := by decide +kernel
theorem dX11_isDeterministic_2 : decode cX11_isDeterministic 2 = .ok (.iload_n 1, 1) := by decide +kernel
theorem dX11_isDeterministic_3 : decode cX11_isDeterministic 3 = .ok (.bipush 15, 2) := by decide +kernel
theorem dX11_isDeterministic_5 : decode cX11_isDeterministic 5 = .ok (.if_icmp .ge 24, 3) := by decide +kernel
theorem dX11_isDeterministic_8 : decode cX11_isDeterministic 8 = .ok (.aload_n 0, 1) := by decide +kernel
theorem dX11_isDeterministic_9 : decode cX11_isDeterministic 9 = .ok (.getfield 13, 3) := by decide +kernel
theorem dX11_isDeterministic_12 : decode cX11_isDeterministic 12 = .ok (.iload_n 1, 1) := by decide +kernel
theorem dX11_isDeterministic_13 : decode cX11_isDeterministic 13 = .ok (.iaload, 1) := by decide +kernel
theorem dX11_isDeterministic_14 : decode cX11_isDeterministic 14 = .ok (.invokestatic 120, 3) := by decide +kernel
theorem dX11_isDeterministic_17 : decode cX11_isDeterministic 17 = .ok (.iconst 1, 1) := by decide +kernel
theorem dX11_isDeterministic_18 : decode cX11_isDeterministic 18 = .ok (.if_icmp .le 5, 3) := by decide +kernel
theorem dX11_isDeterministic_21 : decode cX11_isDeterministic 21 = .ok (.iconst 0, 1) := by decide +kernel
theorem dX11_isDeterministic_22 : decode cX11_isDeterministic 22 = .ok (.ireturn, 1) := by decide +kernel
theorem dX11_isDeterministic_23 : decode cX11_isDeterministic 23 = .ok (.iinc 1 1, 3) := by decide +kernel
theorem dX11_isDeterministic_26 : decode cX11_isDeterministic 26 = .ok (.goto (-24), 3) := by decide +kernel
theorem dX11_isDeterministic_29 : decode cX11_isDeterministic 29 = .ok (.iconst 1, 1) := by decide +kernel
theorem dX11_isDeterministic_30 : decode cX11_isDeterministic 30 = .ok (.ireturn, 1) := by decide +kernel
set_option maxRecDepth 20000 in
theorem ggX11_allFrom_X11_has : GoodIn wsX11_allFrom wsX11_has := goodIn_r _ [4] (by decide +kernel) (by decide +kernel)
set_option maxRecDepth 20000 in
theorem gX11_allFrom_X11_has : GoodIn wsX11_allFrom (va_wsS RX11 136 yX11_has wsX11_has) := goodIn_app (goodIn_of _ (by decide +kernel)) ggX11_allFrom_X11_has
set_option maxRecDepth 20000 in
theorem ggX11_allFrom_X11_next : GoodIn wsX11_allFrom wsX11_next := goodIn_ca (goodIn_r _ [8, 9, 10, 11, 12, 13, 14, 15, 16, 17, 18, 19, 20, 21, 22, 23, 24, 25, 26, 27, 28, 29, 30, 31, 32, 33, 34, 35, 36, 37, 38, 39] (by decide +kernel) (by decide +kernel)) (goodIn_sub (fun _ h => List.mem_cons_of_mem _ (List.mem_append_right _ h)) (gsub_f _))
set_option maxRecDepth 20000 in
theorem gX11_allFrom_X11_next : GoodIn wsX11_allFrom (wsV RX11 133 RX11 yX11_next wsX11_next) := goodIn_app (goodIn_of _ (by decide +kernel)) ggX11_allFrom_X11_next
theorem dX11_allFrom_0 : decode cX11_allFrom 0 = .ok (.iconst 0, 1) := by decide +kernel
theorem dX11_allFrom_1 : decode cX11_allFrom 1 = .ok (.istore_n 2, 1) := by decide +kernel
theorem dX11_allFrom_2 : decode cX11_allFrom 2 = .ok (.iconst 0, 1) := by decide +kernel
theorem dX11_allFrom_3 : decode cX11_allFrom 3 = .ok (.istore_n 3, 1) := by decide +kernel
theorem dX11_allFrom_4 : decode cX11_allFrom 4 = .ok (.iload_n 3, 1) := by decide +kernel
theorem dX11_allFrom_5 : decode cX11_allFrom 5 = .ok (.iconst 5, 1) := by decide +kernel
theorem dX11_allFrom_6 : decode cX11_allFrom 6 = .ok (.if_icmp .ge 42, 3) := by decide +kernel
theorem dX11_allFrom_9 : decode cX11_allFrom 9 = .ok (.iconst 0, 1) := by decide +kernel
theorem dX11_allFrom_10 : decode cX11_allFrom 10 = .ok (.istore 4, 2) := by decide +kernel
theorem dX11_allFrom_12 : decode cX11_allFrom 12 = .ok (.iload 4, 2) := by decide +kernel
theorem dX11_allFrom_14 : decode cX11_allFrom 14 = .ok (.iconst 3, 1) := by decide +kernel
theorem dX11_allFrom_15 : decode cX11_allFrom 15 = .ok (.if_icmp .ge 27, 3) := by decide +kernel
theorem dX11_allFrom_18 : decode cX11_allFrom 18 = .ok (.iload_n 1, 1) := by decide +kernel
theorem dX11_allFrom_19 : decode cX11_allFrom 19 = .ok (.iload_n 3, 1) := by decide +kernel
theorem dX11_allFrom_20 : decode cX11_allFrom 20 = .ok (.invokestatic 136, 3) := by decide +kernel
theorem dX11_allFrom_23 : decode cX11_allFrom 23 = .ok (.ifCond .eq 19, 3) := by decide +kernel
theorem dX11_allFrom_26 : decode cX11_allFrom 26 = .ok (.iload_n 2, 1) := by decide +kernel
theorem dX11_allFrom_27 : decode cX11_allFrom 27 = .ok (.aload_n 0, 1) := by decide +kernel
theorem dX11_allFrom_28 : decode cX11_allFrom 28 = .ok (.iload_n 3, 1) := by decide +kernel
theorem dX11_allFrom_29 : decode cX11_allFrom 29 = .ok (.iload 4, 2) := by decide +kernel
theorem dX11_allFrom_31 : decode cX11_allFrom 31 = .ok (.invokevirtual 133, 3) := by decide +kernel
theorem dX11_allFrom_34 : decode cX11_allFrom 34 = .ok (.ior, 1) := by decide +kernel
theorem dX11_allFrom_35 : decode cX11_allFrom 35 = .ok (.istore_n 2, 1) := by decide +kernel
theorem dX11_allFrom_36 : decode cX11_allFrom 36 = .ok (.iinc 4 1, 3) := by decide +kernel
theorem dX11_allFrom_39 : decode cX11_allFrom 39 = .ok (.goto (-27), 3) := by decide +kernel
theorem dX11_allFrom_42 : decode cX11_allFrom 42 = .ok (.iinc 3 1, 3) := by decide +kernel
theorem dX11_allFrom_45 : decode cX11_allFrom 45 = .ok (.goto (-41), 3) := by decide +kernel
theorem dX11_allFrom_48 : decode cX11_allFrom 48 = .ok (.iload_n 2, 1) := by decide +kernel
theorem dX11_allFrom_49 : decode cX11_allFrom 49 = .ok (.ireturn, 1) := by decide +kernel
set_option maxRecDepth 20000 in
theorem ggX11_usefulStates_X11_allFrom : GoodIn wsX11_usefulStates wsX11_allFrom := goodIn_ca (goodIn_r _ [6, 7, 8, 5, 9, 10, 11, 12, 13, 1, 14, 15, 16, 17, 18, 19, 20, 21, 22, 23, 24, 25, 26, 27, 28, 29, 30, 31, 32, 33, 34, 35, 36, 37, 38, 39, 40, 41, 42, 43] (by decide +kernel) (by decide +kernel)) (goodIn_sub (fun _ h => List.mem_cons_of_mem _ (List.mem_append_right _ h)) (gsub_f _))
set_option maxRecDepth 20000 in
theorem gX11_usefulStates_X11_allFrom : GoodIn wsX11_usefulStates (wsV RX11 144 RX11 yX11_allFrom wsX11_allFrom) := goodIn_app (goodIn_of _ (by decide +kernel)) ggX11_usefulStates_X11_allFrom
theorem dX11_usefulStates_0 : decode cX11_usefulStates 0 = .ok (.iconst 1, 1) := by decide +kernel
theorem dX11_usefulStates_1 : decode cX11_usefulStates 1 = .ok (.istore_n 1, 1) := by decide +kernel
theorem dX11_usefulStates_2 : decode cX11_usefulStates 2 = .ok (.aload_n 0, 1) := by decide +kernel
theorem dX11_usefulStates_3 : decode cX11_usefulStates 3 = .ok (.getfield 13, 3) := by decide +kernel
theorem dX11_usefulStates_6 : decode cX11_usefulStates 6 = .ok (.bipush 15, 2) := by decide +kernel
theorem dX11_usefulStates_8 : decode cX11_usefulStates 8 = .ok (.iaload, 1) := by decide +kernel
theorem dX11_usefulStates_9 : decode cX11_usefulStates 9 = .ok (.istore_n 2, 1) := by decide +kernel
theorem dX11_usefulStates_10 : decode cX11_usefulStates 10 = .ok (.iconst 0, 1) := by decide +kernel
theorem dX11_usefulStates_11 : decode cX11_usefulStates 11 = .ok (.istore_n 3, 1) := by decide +kernel
theorem dX11_usefulStates_12 : decode cX11_usefulStates 12 = .ok (.iload_n 3, 1) := by decide +kernel
theorem dX11_usefulStates_13 : decode cX11_usefulStates 13 = .ok (.iconst 5, 1) := by decide +kernel
theorem dX11_usefulStates_14 : decode cX11_usefulStates 14 = .ok (.if_icmp .ge 52, 3) := by decide +kernel
theorem dX11_usefulStates_17 : decode cX11_usefulStates 17 = .ok (.iload_n 1, 1) := by decide +kernel
theorem dX11_usefulStates_18 : decode cX11_usefulStates 18 = .ok (.aload_n 0, 1) := by decide +kernel
theorem dX11_usefulStates_19 : decode cX11_usefulStates 19 = .ok (.iload_n 1, 1) := by decide +kernel
theorem dX11_usefulStates_20 : decode cX11_usefulStates 20 = .ok (.invokevirtual 144, 3) := by decide +kernel
theorem dX11_usefulStates_23 : decode cX11_usefulStates 23 = .ok (.ior, 1) := by decide +kernel
theorem dX11_usefulStates_24 : decode cX11_usefulStates 24 = .ok (.istore_n 1, 1) := by decide +kernel
theorem dX11_usefulStates_25 : decode cX11_usefulStates 25 = .ok (.iconst 0, 1) := by decide +kernel
theorem dX11_usefulStates_26 : decode cX11_usefulStates 26 = .ok (.istore 4, 2) := by decide +kernel
theorem dX11_usefulStates_28 : decode cX11_usefulStates 28 = .ok (.iload 4, 2) := by decide +kernel
theorem dX11_usefulStates_30 : decode cX11_usefulStates 30 = .ok (.iconst 5, 1) := by decide +kernel
theorem dX11_usefulStates_31 : decode cX11_usefulStates 31 = .ok (.if_icmp .ge 29, 3) := by decide +kernel
theorem dX11_usefulStates_34 : decode cX11_usefulStates 34 = .ok (.aload_n 0, 1) := by decide +kernel
theorem dX11_usefulStates_35 : decode cX11_usefulStates 35 = .ok (.iconst 1, 1) := by decide +kernel
theorem dX11_usefulStates_36 : decode cX11_usefulStates 36 = .ok (.iload 4, 2) := by decide +kernel
theorem dX11_usefulStates_38 : decode cX11_usefulStates 38 = .ok (.ishl, 1) := by decide +kernel
theorem dX11_usefulStates_39 : decode cX11_usefulStates 39 = .ok (.invokevirtual 144, 3) := by decide +kernel
theorem dX11_usefulStates_42 : decode cX11_usefulStates 42 = .ok (.iload_n 2, 1) := by decide +kernel
theorem dX11_usefulStates_43 : decode cX11_usefulStates 43 = .ok (.iand, 1) := by decide +kernel
theorem dX11_usefulStates_44 : decode cX11_usefulStates 44 = .ok (.ifCond .eq 10, 3) := by decide +kernel
theorem dX11_usefulStates_47 : decode cX11_usefulStates 47 = .ok (.iload_n 2, 1) := by decide +kernel
theorem dX11_usefulStates_48 : decode cX11_usefulStates 48 = .ok (.iconst 1, 1) := by decide +kernel
theorem dX11_usefulStates_49 : decode cX11_usefulStates 49 = .ok (.iload 4, 2) := by decide +kernel
theorem dX11_usefulStates_51 : decode cX11_usefulStates 51 = .ok (.ishl, 1) := by decide +kernel
theorem dX11_usefulStates_52 : decode cX11_usefulStates 52 = .ok (.ior, 1) := by decide +kernel
theorem dX11_usefulStates_53 : decode cX11_usefulStates 53 = .ok (.istore_n 2, 1) := by decide +kernel
theorem dX11_usefulStates_54 : decode cX11_usefulStates 54 = .ok (.iinc 4 1, 3) := by decide +kernel
theorem dX11_usefulStates_57 : decode cX11_usefulStates 57 = .ok (.goto (-29), 3) := by decide +kernel
theorem dX11_usefulStates_60 : decode cX11_usefulStates 60 = .ok (.iinc 3 1, 3) := by decide +kernel
theorem dX11_usefulStates_63 : decode cX11_usefulStates 63 = .ok (.goto (-51), 3) := by decide +kernel
theorem dX11_usefulStates_66 : decode cX11_usefulStates 66 = .ok (.iload_n 1, 1) := by decide +kernel
theorem dX11_usefulStates_67 : decode cX11_usefulStates 67 = .ok (.iload_n 2, 1) := by decide +kernel
theorem dX11_usefulStates_68 : decode cX11_usefulStates 68 = .ok (.iand, 1) := by decide +kernel
theorem dX11_usefulStates_69 : decode cX11_usefulStates 69 = .ok (.ireturn, 1) := by decide +kernel
set_option maxRecDepth 20000 in
theorem ggX11_appendLetter_X11_isLetter : GoodIn wsX11_appendLetter wsX11_isLetter := goodIn_r _ [7, 8, 9, 6, 10] (by decide +kernel) (by decide +kernel)
set_option maxRecDepth 20000 in
theorem gX11_appendLetter_X11_isLetter : GoodIn wsX11_appendLetter (va_wsS RX11 130 yX11_isLetter wsX11_isLetter) := goodIn_app (goodIn_of _ (by decide +kernel)) ggX11_appendLetter_X11_isLetter
set_option maxRecDepth 20000 in
theorem ggX11_appendLetter_X11_fails : GoodIn wsX11_appendLetter wsX11_fails := goodIn_r _ [14, 1, 15, 16, 17, 18, 19, 20, 21, 22, 23, 24, 25, 26, 27, 28, 29, 30, 31, 32, 33, 34, 35, 36, 37, 38, 39, 40, 41, 42, 43, 44] (by decide +kernel) (by decide +kernel)
set_option maxRecDepth 20000 in
theorem gX11_appendLetter_X11_fails : GoodIn wsX11_appendLetter (wsV RX11 109 RX11 yX11_fails wsX11_fails) := goodIn_app (goodIn_of _ (by decide +kernel)) ggX11_appendLetter_X11_fails
theorem dX11_appendLetter_0 : decode cX11_appendLetter 0 = .ok (.aload_n 0, 1) := by decide +kernel
theorem dX11_appendLetter_1 : decode cX11_appendLetter 1 = .ok (.iconst 0, 1) := by decide +kernel
theorem dX11_appendLetter_2 : decode cX11_appendLetter 2 = .ok (.putfield 1, 3) := by decide +kernel
theorem dX11_appendLetter_5 : decode cX11_appendLetter 5 = .ok (.iload_n 1, 1) := by decide +kernel
theorem dX11_appendLetter_6 : decode cX11_appendLetter 6 = .ok (.invokestatic 130, 3) := by decide +kernel
theorem dX11_appendLetter_9 : decode cX11_appendLetter 9 = .ok (.ifCond .ne 9, 3) := by decide +kernel
theorem dX11_appendLetter_12 : decode cX11_appendLetter 12 = .ok (.aload_n 0, 1) := by decide +kernel
theorem dX11_appendLetter_13 : decode cX11_appendLetter 13 = .ok (.iconst 1, 1) := by decide +kernel
theorem dX11_appendLetter_14 : decode cX11_appendLetter 14 = .ok (.invokevirtual 109, 3) := by decide +kernel
theorem dX11_appendLetter_17 : decode cX11_appendLetter 17 = .ok (.ireturn, 1) := by decide +kernel
theorem dX11_appendLetter_18 : decode cX11_appendLetter 18 = .ok (.aload_n 0, 1) := by decide +kernel
theorem dX11_appendLetter_19 : decode cX11_appendLetter 19 = .ok (.getfield 51, 3) := by decide +kernel
theorem dX11_appendLetter_22 : decode cX11_appendLetter 22 = .ok (.bipush 8, 2) := by decide +kernel
theorem dX11_appendLetter_24 : decode cX11_appendLetter 24 = .ok (.if_icmp .ne 9, 3) := by decide +kernel
theorem dX11_appendLetter_27 : decode cX11_appendLetter 27 = .ok (.aload_n 0, 1) := by decide +kernel
theorem dX11_appendLetter_28 : decode cX11_appendLetter 28 = .ok (.iconst 2, 1) := by decide +kernel
theorem dX11_appendLetter_29 : decode cX11_appendLetter 29 = .ok (.invokevirtual 109, 3) := by decide +kernel
theorem dX11_appendLetter_32 : decode cX11_appendLetter 32 = .ok (.ireturn, 1) := by decide +kernel
theorem dX11_appendLetter_33 : decode cX11_appendLetter 33 = .ok (.aload_n 0, 1) := by decide +kernel
theorem dX11_appendLetter_34 : decode cX11_appendLetter 34 = .ok (.getfield 45, 3) := by decide +kernel
theorem dX11_appendLetter_37 : decode cX11_appendLetter 37 = .ok (.aload_n 0, 1) := by decide +kernel
theorem dX11_appendLetter_38 : decode cX11_appendLetter 38 = .ok (.getfield 51, 3) := by decide +kernel
theorem dX11_appendLetter_41 : decode cX11_appendLetter 41 = .ok (.iload_n 1, 1) := by decide +kernel
theorem dX11_appendLetter_42 : decode cX11_appendLetter 42 = .ok (.iastore, 1) := by decide +kernel
theorem dX11_appendLetter_43 : decode cX11_appendLetter 43 = .ok (.aload_n 0, 1) := by decide +kernel
theorem dX11_appendLetter_44 : decode cX11_appendLetter 44 = .ok (.dup, 1) := by decide +kernel
theorem dX11_appendLetter_45 : decode cX11_appendLetter 45 = .ok (.getfield 51, 3) := by decide +kernel
theorem dX11_appendLetter_48 : decode cX11_appendLetter 48 = .ok (.iconst 1, 1) := by decide +kernel
theorem dX11_appendLetter_49 : decode cX11_appendLetter 49 = .ok (.iadd, 1) := by decide +kernel
theorem dX11_appendLetter_50 : decode cX11_appendLetter 50 = .ok (.putfield 51, 3) := by decide +kernel
theorem dX11_appendLetter_53 : decode cX11_appendLetter 53 = .ok (.aload_n 0, 1) := by decide +kernel
theorem dX11_appendLetter_54 : decode cX11_appendLetter 54 = .ok (.getfield 51, 3) := by decide +kernel
theorem dX11_appendLetter_57 : decode cX11_appendLetter 57 = .ok (.ireturn, 1) := by decide +kernel
theorem dX11_clearWord_0 : decode cX11_clearWord 0 = .ok (.aload_n 0, 1) := by decide +kernel
theorem dX11_clearWord_1 : decode cX11_clearWord 1 = .ok (.getfield 51, 3) := by decide +kernel
theorem dX11_clearWord_4 : decode cX11_clearWord 4 = .ok (.istore_n 1, 1) := by decide +kernel
theorem dX11_clearWord_5 : decode cX11_clearWord 5 = .ok (.aload_n 0, 1) := by decide +kernel
theorem dX11_clearWord_6 : decode cX11_clearWord 6 = .ok (.iconst 0, 1) := by decide +kernel
theorem dX11_clearWord_7 : decode cX11_clearWord 7 = .ok (.putfield 51, 3) := by decide +kernel
theorem dX11_clearWord_10 : decode cX11_clearWord 10 = .ok (.iload_n 1, 1) := by decide +kernel
theorem dX11_clearWord_11 : decode cX11_clearWord 11 = .ok (.ireturn, 1) := by decide +kernel
theorem dX11_wordLength_0 : decode cX11_wordLength 0 = .ok (.aload_n 0, 1) := by decide +kernel
theorem dX11_wordLength_1 : decode cX11_wordLength 1 = .ok (.getfield 51, 3) := by decide +kernel
theorem dX11_wordLength_4 : decode cX11_wordLength 4 = .ok (.ireturn, 1) := by decide +kernel
set_option maxRecDepth 20000 in
theorem ggX11_letterAt_X11_in : GoodIn wsX11_letterAt wsX11_in := goodIn_r _ [7] (by decide +kernel) (by decide +kernel)
set_option maxRecDepth 20000 in
theorem gX11_letterAt_X11_in : GoodIn wsX11_letterAt (va_wsS RX11 105 yX11_in wsX11_in) := goodIn_app (goodIn_of _ (by decide +kernel)) ggX11_letterAt_X11_in
set_option maxRecDepth 20000 in
theorem ggX11_letterAt_X11_fails : GoodIn wsX11_letterAt wsX11_fails := goodIn_r _ [11, 1, 12, 13, 14, 15, 16, 17, 18, 19, 20, 21, 22, 23, 24, 25, 26, 27, 28, 29, 30, 31, 32, 33, 34, 35, 36, 37, 38, 39, 40, 41] (by decide +kernel) (by decide +kernel)
set_option maxRecDepth 20000 in
theorem gX11_letterAt_X11_fails : GoodIn wsX11_letterAt (wsV RX11 109 RX11 yX11_fails wsX11_fails) := goodIn_app (goodIn_of _ (by decide +kernel)) ggX11_letterAt_X11_fails
theorem dX11_letterAt_0 : decode cX11_letterAt 0 = .ok (.aload_n 0, 1) := by decide +kernel
theorem dX11_letterAt_1 : decode cX11_letterAt 1 = .ok (.iconst 0, 1) := by decide +kernel
theorem dX11_letterAt_2 : decode cX11_letterAt 2 = .ok (.putfield 1, 3) := by decide +kernel
theorem dX11_letterAt_5 : decode cX11_letterAt 5 = .ok (.iload_n 1, 1) := by decide +kernel
theorem dX11_letterAt_6 : decode cX11_letterAt 6 = .ok (.iconst 0, 1) := by decide +kernel
theorem dX11_letterAt_7 : decode cX11_letterAt 7 = .ok (.aload_n 0, 1) := by decide +kernel
theorem dX11_letterAt_8 : decode cX11_letterAt 8 = .ok (.getfield 51, 3) := by decide +kernel
theorem dX11_letterAt_11 : decode cX11_letterAt 11 = .ok (.iconst 1, 1) := by decide +kernel
theorem dX11_letterAt_12 : decode cX11_letterAt 12 = .ok (.isub, 1) := by decide +kernel
theorem dX11_letterAt_13 : decode cX11_letterAt 13 = .ok (.invokestatic 105, 3) := by decide +kernel
theorem dX11_letterAt_16 : decode cX11_letterAt 16 = .ok (.ifCond .eq 12, 3) := by decide +kernel
theorem dX11_letterAt_19 : decode cX11_letterAt 19 = .ok (.aload_n 0, 1) := by decide +kernel
theorem dX11_letterAt_20 : decode cX11_letterAt 20 = .ok (.getfield 45, 3) := by decide +kernel
theorem dX11_letterAt_23 : decode cX11_letterAt 23 = .ok (.iload_n 1, 1) := by decide +kernel
theorem dX11_letterAt_24 : decode cX11_letterAt 24 = .ok (.iaload, 1) := by decide +kernel
theorem dX11_letterAt_25 : decode cX11_letterAt 25 = .ok (.goto 8, 3) := by decide +kernel
theorem dX11_letterAt_28 : decode cX11_letterAt 28 = .ok (.aload_n 0, 1) := by decide +kernel
theorem dX11_letterAt_29 : decode cX11_letterAt 29 = .ok (.iconst 1, 1) := by decide +kernel
theorem dX11_letterAt_30 : decode cX11_letterAt 30 = .ok (.invokevirtual 109, 3) := by decide +kernel
theorem dX11_letterAt_33 : decode cX11_letterAt 33 = .ok (.ireturn, 1) := by decide +kernel
set_option maxRecDepth 20000 in
theorem ggX11_after_X11_has : GoodIn wsX11_after wsX11_has := goodIn_r _ [4] (by decide +kernel) (by decide +kernel)
set_option maxRecDepth 20000 in
theorem gX11_after_X11_has : GoodIn wsX11_after (va_wsS RX11 136 yX11_has wsX11_has) := goodIn_app (goodIn_of _ (by decide +kernel)) ggX11_after_X11_has
set_option maxRecDepth 20000 in
theorem ggX11_after_X11_next : GoodIn wsX11_after wsX11_next := goodIn_ca (goodIn_r _ [8, 9, 10, 11, 12, 13, 14, 15, 16, 17, 18, 19, 20, 21, 22, 23, 24, 25, 26, 27, 28, 29, 30, 31, 32, 33, 34, 35, 36, 37, 38, 39] (by decide +kernel) (by decide +kernel)) (goodIn_sub (fun _ h => List.mem_cons_of_mem _ (List.mem_append_right _ h)) (gsub_f _))
set_option maxRecDepth 20000 in
theorem gX11_after_X11_next : GoodIn wsX11_after (wsV RX11 133 RX11 yX11_next wsX11_next) := goodIn_app (goodIn_of _ (by decide +kernel)) ggX11_after_X11_next
theorem dX11_after_0 : decode cX11_after 0 = .ok (.iconst 0, 1) := by decide +kernel
theorem dX11_after_1 : decode cX11_after 1 = .ok (.istore_n 3, 1) := by decide +kernel
theorem dX11_after_2 : decode cX11_after 2 = .ok (.iconst 0, 1) := by decide +kernel
theorem dX11_after_3 : decode cX11_after 3 = .ok (.istore 4, 2) := by decide +kernel
theorem dX11_after_5 : decode cX11_after 5 = .ok (.iload 4, 2) := by decide +kernel
theorem dX11_after_7 : decode cX11_after 7 = .ok (.iconst 5, 1) := by decide +kernel
theorem dX11_after_8 : decode cX11_after 8 = .ok (.if_icmp .ge 28, 3) := by decide +kernel
theorem dX11_after_11 : decode cX11_after 11 = .ok (.iload_n 1, 1) := by decide +kernel
theorem dX11_after_12 : decode cX11_after 12 = .ok (.iload 4, 2) := by decide +kernel
theorem dX11_after_14 : decode cX11_after 14 = .ok (.invokestatic 136, 3) := by decide +kernel
theorem dX11_after_17 : decode cX11_after 17 = .ok (.ifCond .eq 13, 3) := by decide +kernel
theorem dX11_after_20 : decode cX11_after 20 = .ok (.iload_n 3, 1) := by decide +kernel
theorem dX11_after_21 : decode cX11_after 21 = .ok (.aload_n 0, 1) := by decide +kernel
theorem dX11_after_22 : decode cX11_after 22 = .ok (.iload 4, 2) := by decide +kernel
theorem dX11_after_24 : decode cX11_after 24 = .ok (.iload_n 2, 1) := by decide +kernel
theorem dX11_after_25 : decode cX11_after 25 = .ok (.invokevirtual 133, 3) := by decide +kernel
theorem dX11_after_28 : decode cX11_after 28 = .ok (.ior, 1) := by decide +kernel
theorem dX11_after_29 : decode cX11_after 29 = .ok (.istore_n 3, 1) := by decide +kernel
theorem dX11_after_30 : decode cX11_after 30 = .ok (.iinc 4 1, 3) := by decide +kernel
theorem dX11_after_33 : decode cX11_after 33 = .ok (.goto (-28), 3) := by decide +kernel
theorem dX11_after_36 : decode cX11_after 36 = .ok (.iload_n 3, 1) := by decide +kernel
theorem dX11_after_37 : decode cX11_after 37 = .ok (.ireturn, 1) := by decide +kernel
set_option maxRecDepth 20000 in
theorem ggX11_isInOrder_X11_after : GoodIn wsX11_isInOrder wsX11_after := goodIn_ca (goodIn_r _ [6, 7, 8, 5, 9, 10, 11, 12, 13, 1, 14, 15, 16, 17, 18, 19, 20, 21, 22, 23, 24, 25, 26, 27, 28, 29, 30, 31, 32, 33, 34, 35, 36, 37, 38, 39, 40, 41, 42, 43] (by decide +kernel) (by decide +kernel)) (goodIn_sub (fun _ h => List.mem_cons_of_mem _ (List.mem_append_right _ h)) (gsub_f _))
set_option maxRecDepth 20000 in
theorem gX11_isInOrder_X11_after : GoodIn wsX11_isInOrder (wsV RX11 147 RX11 yX11_after wsX11_after) := goodIn_app (goodIn_of _ (by decide +kernel)) ggX11_isInOrder_X11_after
theorem dX11_isInOrder_0 : decode cX11_isInOrder 0 = .ok (.iconst 1, 1) := by decide +kernel
theorem dX11_isInOrder_1 : decode cX11_isInOrder 1 = .ok (.istore_n 3, 1) := by decide +kernel
theorem dX11_isInOrder_2 : decode cX11_isInOrder 2 = .ok (.iconst 0, 1) := by decide +kernel
theorem dX11_isInOrder_3 : decode cX11_isInOrder 3 = .ok (.istore 4, 2) := by decide +kernel
theorem dX11_isInOrder_5 : decode cX11_isInOrder 5 = .ok (.iload 4, 2) := by decide +kernel
theorem dX11_isInOrder_7 : decode cX11_isInOrder 7 = .ok (.iload_n 2, 1) := by decide +kernel
theorem dX11_isInOrder_8 : decode cX11_isInOrder 8 = .ok (.if_icmp .ge 19, 3) := by decide +kernel
theorem dX11_isInOrder_11 : decode cX11_isInOrder 11 = .ok (.aload_n 0, 1) := by decide +kernel
theorem dX11_isInOrder_12 : decode cX11_isInOrder 12 = .ok (.iload_n 3, 1) := by decide +kernel
theorem dX11_isInOrder_13 : decode cX11_isInOrder 13 = .ok (.aload_n 1, 1) := by decide +kernel
theorem dX11_isInOrder_14 : decode cX11_isInOrder 14 = .ok (.iload 4, 2) := by decide +kernel
theorem dX11_isInOrder_16 : decode cX11_isInOrder 16 = .ok (.iaload, 1) := by decide +kernel
theorem dX11_isInOrder_17 : decode cX11_isInOrder 17 = .ok (.invokevirtual 147, 3) := by decide +kernel
theorem dX11_isInOrder_20 : decode cX11_isInOrder 20 = .ok (.istore_n 3, 1) := by decide +kernel
theorem dX11_isInOrder_21 : decode cX11_isInOrder 21 = .ok (.iinc 4 1, 3) := by decide +kernel
theorem dX11_isInOrder_24 : decode cX11_isInOrder 24 = .ok (.goto (-19), 3) := by decide +kernel
theorem dX11_isInOrder_27 : decode cX11_isInOrder 27 = .ok (.iload_n 3, 1) := by decide +kernel
theorem dX11_isInOrder_28 : decode cX11_isInOrder 28 = .ok (.aload_n 0, 1) := by decide +kernel
theorem dX11_isInOrder_29 : decode cX11_isInOrder 29 = .ok (.getfield 13, 3) := by decide +kernel
theorem dX11_isInOrder_32 : decode cX11_isInOrder 32 = .ok (.bipush 15, 2) := by decide +kernel
theorem dX11_isInOrder_34 : decode cX11_isInOrder 34 = .ok (.iaload, 1) := by decide +kernel
theorem dX11_isInOrder_35 : decode cX11_isInOrder 35 = .ok (.iand, 1) := by decide +kernel
theorem dX11_isInOrder_36 : decode cX11_isInOrder 36 = .ok (.ifCond .eq 7, 3) := by decide +kernel
theorem dX11_isInOrder_39 : decode cX11_isInOrder 39 = .ok (.iconst 1, 1) := by decide +kernel
theorem dX11_isInOrder_40 : decode cX11_isInOrder 40 = .ok (.goto 4, 3) := by decide +kernel
theorem dX11_isInOrder_43 : decode cX11_isInOrder 43 = .ok (.iconst 0, 1) := by decide +kernel
theorem dX11_isInOrder_44 : decode cX11_isInOrder 44 = .ok (.ireturn, 1) := by decide +kernel
theorem dX11_place_0 : decode cX11_place 0 = .ok (.bipush 10, 2) := by decide +kernel
theorem dX11_place_2 : decode cX11_place 2 = .ok (.iload_n 0, 1) := by decide +kernel
theorem dX11_place_3 : decode cX11_place 3 = .ok (.imul, 1) := by decide +kernel
theorem dX11_place_4 : decode cX11_place 4 = .ok (.iload_n 1, 1) := by decide +kernel
theorem dX11_place_5 : decode cX11_place 5 = .ok (.iadd, 1) := by decide +kernel
theorem dX11_place_6 : decode cX11_place 6 = .ok (.bipush 10, 2) := by decide +kernel
theorem dX11_place_8 : decode cX11_place 8 = .ok (.imul, 1) := by decide +kernel
theorem dX11_place_9 : decode cX11_place 9 = .ok (.iload_n 2, 1) := by decide +kernel
theorem dX11_place_10 : decode cX11_place 10 = .ok (.iadd, 1) := by decide +kernel
theorem dX11_place_11 : decode cX11_place 11 = .ok (.ireturn, 1) := by decide +kernel
set_option maxRecDepth 20000 in
theorem ggX11_layReached_X11_place : GoodIn wsX11_layReached wsX11_place := goodIn_r _ [5] (by decide +kernel) (by decide +kernel)
set_option maxRecDepth 20000 in
theorem gX11_layReached_X11_place : GoodIn wsX11_layReached (va_wsS RX11 150 yX11_place wsX11_place) := goodIn_app (goodIn_of _ (by decide +kernel)) ggX11_layReached_X11_place
set_option maxRecDepth 20000 in
theorem ggX11_layReached_X11_after : GoodIn wsX11_layReached wsX11_after := goodIn_ca (goodIn_r _ [9, 10, 11, 4, 12, 13, 14, 15, 16, 17, 18, 19, 20, 21, 22, 23, 24, 25, 26, 27, 28, 29, 30, 31, 32, 33, 34, 35, 36, 37, 38, 39, 40, 41, 42, 43, 44, 45, 46, 47] (by decide +kernel) (by decide +kernel)) (goodIn_sub (fun _ h => List.mem_cons_of_mem _ (List.mem_append_right _ h)) (gsub_f _))
set_option maxRecDepth 20000 in
theorem gX11_layReached_X11_after : GoodIn wsX11_layReached (wsV RX11 147 RX11 yX11_after wsX11_after) := goodIn_app (goodIn_of _ (by decide +kernel)) ggX11_layReached_X11_after
theorem dX11_layReached_0 : decode cX11_layReached 0 = .ok (.iconst 0, 1) := by decide +kernel
theorem dX11_layReached_1 : decode cX11_layReached 1 = .ok (.istore_n 1, 1) := by decide +kernel
theorem dX11_layReached_2 : decode cX11_layReached 2 = .ok (.iload_n 1, 1) := by decide +kernel
theorem dX11_layReached_3 : decode cX11_layReached 3 = .ok (.bipush 10, 2) := by decide +kernel
theorem dX11_layReached_5 : decode cX11_layReached 5 = .ok (.if_icmp .ge 146, 3) := by decide +kernel
theorem dX11_layReached_8 : decode cX11_layReached 8 = .ok (.iconst 0, 1) := by decide +kernel
theorem dX11_layReached_9 : decode cX11_layReached 9 = .ok (.istore_n 2, 1) := by decide +kernel
theorem dX11_layReached_10 : decode cX11_layReached 10 = .ok (.iload_n 2, 1) := by decide +kernel
theorem dX11_layReached_11 : decode cX11_layReached 11 = .ok (.bipush 10, 2) := by decide +kernel
theorem dX11_layReached_13 : decode cX11_layReached 13 = .ok (.if_icmp .ge 132, 3) := by decide +kernel
theorem dX11_layReached_16 : decode cX11_layReached 16 = .ok (.iconst 0, 1) := by decide +kernel
theorem dX11_layReached_17 : decode cX11_layReached 17 = .ok (.istore_n 3, 1) := by decide +kernel
theorem dX11_layReached_18 : decode cX11_layReached 18 = .ok (.iload_n 3, 1) := by decide +kernel
theorem dX11_layReached_19 : decode cX11_layReached 19 = .ok (.bipush 10, 2) := by decide +kernel
theorem dX11_layReached_21 : decode cX11_layReached 21 = .ok (.if_icmp .ge 118, 3) := by decide +kernel
theorem dX11_layReached_24 : decode cX11_layReached 24 = .ok (.iload_n 1, 1) := by decide +kernel
theorem dX11_layReached_25 : decode cX11_layReached 25 = .ok (.iload_n 2, 1) := by decide +kernel
theorem dX11_layReached_26 : decode cX11_layReached 26 = .ok (.iadd, 1) := by decide +kernel
theorem dX11_layReached_27 : decode cX11_layReached 27 = .ok (.iload_n 3, 1) := by decide +kernel
theorem dX11_layReached_28 : decode cX11_layReached 28 = .ok (.iadd, 1) := by decide +kernel
theorem dX11_layReached_29 : decode cX11_layReached 29 = .ok (.ifCond .ne 7, 3) := by decide +kernel
theorem dX11_layReached_32 : decode cX11_layReached 32 = .ok (.iconst 1, 1) := by decide +kernel
theorem dX11_layReached_33 : decode cX11_layReached 33 = .ok (.goto 4, 3) := by decide +kernel
theorem dX11_layReached_36 : decode cX11_layReached 36 = .ok (.iconst 0, 1) := by decide +kernel
theorem dX11_layReached_37 : decode cX11_layReached 37 = .ok (.istore 4, 2) := by decide +kernel
theorem dX11_layReached_39 : decode cX11_layReached 39 = .ok (.iload_n 1, 1) := by decide +kernel
theorem dX11_layReached_40 : decode cX11_layReached 40 = .ok (.ifCond .le 26, 3) := by decide +kernel
theorem dX11_layReached_43 : decode cX11_layReached 43 = .ok (.iload 4, 2) := by decide +kernel
theorem dX11_layReached_45 : decode cX11_layReached 45 = .ok (.aload_n 0, 1) := by decide +kernel
theorem dX11_layReached_46 : decode cX11_layReached 46 = .ok (.aload_n 0, 1) := by decide +kernel
theorem dX11_layReached_47 : decode cX11_layReached 47 = .ok (.getfield 54, 3) := by decide +kernel
theorem dX11_layReached_50 : decode cX11_layReached 50 = .ok (.iload_n 1, 1) := by decide +kernel
theorem dX11_layReached_51 : decode cX11_layReached 51 = .ok (.iconst 1, 1) := by decide +kernel
theorem dX11_layReached_52 : decode cX11_layReached 52 = .ok (.isub, 1) := by decide +kernel
theorem dX11_layReached_53 : decode cX11_layReached 53 = .ok (.iload_n 2, 1) := by decide +kernel
theorem dX11_layReached_54 : decode cX11_layReached 54 = .ok (.iload_n 3, 1) := by decide +kernel
theorem dX11_layReached_55 : decode cX11_layReached 55 = .ok (.invokestatic 150, 3) := by decide +kernel
theorem dX11_layReached_58 : decode cX11_layReached 58 = .ok (.iaload, 1) := by decide +kernel
theorem dX11_layReached_59 : decode cX11_layReached 59 = .ok (.iconst 0, 1) := by decide +kernel
theorem dX11_layReached_60 : decode cX11_layReached 60 = .ok (.invokevirtual 147, 3) := by decide +kernel
theorem dX11_layReached_63 : decode cX11_layReached 63 = .ok (.ior, 1) := by decide +kernel
theorem dX11_layReached_64 : decode cX11_layReached 64 = .ok (.istore 4, 2) := by decide +kernel
theorem dX11_layReached_66 : decode cX11_layReached 66 = .ok (.iload_n 2, 1) := by decide +kernel
theorem dX11_layReached_67 : decode cX11_layReached 67 = .ok (.ifCond .le 26, 3) := by decide +kernel
theorem dX11_layReached_70 : decode cX11_layReached 70 = .ok (.iload 4, 2) := by decide +kernel
theorem dX11_layReached_72 : decode cX11_layReached 72 = .ok (.aload_n 0, 1) := by decide +kernel
theorem dX11_layReached_73 : decode cX11_layReached 73 = .ok (.aload_n 0, 1) := by decide +kernel
theorem dX11_layReached_74 : decode cX11_layReached 74 = .ok (.getfield 54, 3) := by decide +kernel
theorem dX11_layReached_77 : decode cX11_layReached 77 = .ok (.iload_n 1, 1) := by decide +kernel
theorem dX11_layReached_78 : decode cX11_layReached 78 = .ok (.iload_n 2, 1) := by decide +kernel
theorem dX11_layReached_79 : decode cX11_layReached 79 = .ok (.iconst 1, 1) := by decide +kernel
theorem dX11_layReached_80 : decode cX11_layReached 80 = .ok (.isub, 1) := by decide +kernel
theorem dX11_layReached_81 : decode cX11_layReached 81 = .ok (.iload_n 3, 1) := by decide +kernel
theorem dX11_layReached_82 : decode cX11_layReached 82 = .ok (.invokestatic 150, 3) := by decide +kernel
theorem dX11_layReached_85 : decode cX11_layReached 85 = .ok (.iaload, 1) := by decide +kernel
theorem dX11_layReached_86 : decode cX11_layReached 86 = .ok (.iconst 1, 1) := by decide +kernel
theorem dX11_layReached_87 : decode cX11_layReached 87 = .ok (.invokevirtual 147, 3) := by decide +kernel
theorem dX11_layReached_90 : decode cX11_layReached 90 = .ok (.ior, 1) := by decide +kernel
theorem dX11_layReached_91 : decode cX11_layReached 91 = .ok (.istore 4, 2) := by decide +kernel
theorem dX11_layReached_93 : decode cX11_layReached 93 = .ok (.iload_n 3, 1) := by decide +kernel
theorem dX11_layReached_94 : decode cX11_layReached 94 = .ok (.ifCond .le 26, 3) := by decide +kernel
theorem dX11_layReached_97 : decode cX11_layReached 97 = .ok (.iload 4, 2) := by decide +kernel
theorem dX11_layReached_99 : decode cX11_layReached 99 = .ok (.aload_n 0, 1) := by decide +kernel
theorem dX11_layReached_100 : decode cX11_layReached 100 = .ok (.aload_n 0, 1) := by decide +kernel
theorem dX11_layReached_101 : decode cX11_layReached 101 = .ok (.getfield 54, 3) := by decide +kernel
theorem dX11_layReached_104 : decode cX11_layReached 104 = .ok (.iload_n 1, 1) := by decide +kernel
theorem dX11_layReached_105 : decode cX11_layReached 105 = .ok (.iload_n 2, 1) := by decide +kernel
theorem dX11_layReached_106 : decode cX11_layReached 106 = .ok (.iload_n 3, 1) := by decide +kernel
theorem dX11_layReached_107 : decode cX11_layReached 107 = .ok (.iconst 1, 1) := by decide +kernel
theorem dX11_layReached_108 : decode cX11_layReached 108 = .ok (.isub, 1) := by decide +kernel
theorem dX11_layReached_109 : decode cX11_layReached 109 = .ok (.invokestatic 150, 3) := by decide +kernel
theorem dX11_layReached_112 : decode cX11_layReached 112 = .ok (.iaload, 1) := by decide +kernel
theorem dX11_layReached_113 : decode cX11_layReached 113 = .ok (.iconst 2, 1) := by decide +kernel
theorem dX11_layReached_114 : decode cX11_layReached 114 = .ok (.invokevirtual 147, 3) := by decide +kernel
theorem dX11_layReached_117 : decode cX11_layReached 117 = .ok (.ior, 1) := by decide +kernel
theorem dX11_layReached_118 : decode cX11_layReached 118 = .ok (.istore 4, 2) := by decide +kernel
theorem dX11_layReached_120 : decode cX11_layReached 120 = .ok (.aload_n 0, 1) := by decide +kernel
theorem dX11_layReached_121 : decode cX11_layReached 121 = .ok (.getfield 54, 3) := by decide +kernel
theorem dX11_layReached_124 : decode cX11_layReached 124 = .ok (.iload_n 1, 1) := by decide +kernel
theorem dX11_layReached_125 : decode cX11_layReached 125 = .ok (.iload_n 2, 1) := by decide +kernel
theorem dX11_layReached_126 : decode cX11_layReached 126 = .ok (.iload_n 3, 1) := by decide +kernel
theorem dX11_layReached_127 : decode cX11_layReached 127 = .ok (.invokestatic 150, 3) := by decide +kernel
theorem dX11_layReached_130 : decode cX11_layReached 130 = .ok (.iload 4, 2) := by decide +kernel
theorem dX11_layReached_132 : decode cX11_layReached 132 = .ok (.iastore, 1) := by decide +kernel
theorem dX11_layReached_133 : decode cX11_layReached 133 = .ok (.iinc 3 1, 3) := by decide +kernel
theorem dX11_layReached_136 : decode cX11_layReached 136 = .ok (.goto (-118), 3) := by decide +kernel
theorem dX11_layReached_139 : decode cX11_layReached 139 = .ok (.iinc 2 1, 3) := by decide +kernel
theorem dX11_layReached_142 : decode cX11_layReached 142 = .ok (.goto (-132), 3) := by decide +kernel
theorem dX11_layReached_145 : decode cX11_layReached 145 = .ok (.iinc 1 1, 3) := by decide +kernel
theorem dX11_layReached_148 : decode cX11_layReached 148 = .ok (.goto (-146), 3) := by decide +kernel
theorem dX11_layReached_151 : decode cX11_layReached 151 = .ok (.return_, 1) := by decide +kernel
set_option maxRecDepth 20000 in
theorem ggX11_isReached_X11_place : GoodIn wsX11_isReached wsX11_place := goodIn_r _ [6] (by decide +kernel) (by decide +kernel)
set_option maxRecDepth 20000 in
theorem gX11_isReached_X11_place : GoodIn wsX11_isReached (va_wsS RX11 150 yX11_place wsX11_place) := goodIn_app (goodIn_of _ (by decide +kernel)) ggX11_isReached_X11_place
theorem dX11_isReached_0 : decode cX11_isReached 0 = .ok (.aload_n 0, 1) := by decide +kernel
theorem dX11_isReached_1 : decode cX11_isReached 1 = .ok (.getfield 54, 3) := by decide +kernel
theorem dX11_isReached_4 : decode cX11_isReached 4 = .ok (.iload_n 1, 1) := by decide +kernel
theorem dX11_isReached_5 : decode cX11_isReached 5 = .ok (.iload_n 2, 1) := by decide +kernel
theorem dX11_isReached_6 : decode cX11_isReached 6 = .ok (.iload_n 3, 1) := by decide +kernel
theorem dX11_isReached_7 : decode cX11_isReached 7 = .ok (.invokestatic 150, 3) := by decide +kernel
theorem dX11_isReached_10 : decode cX11_isReached 10 = .ok (.iaload, 1) := by decide +kernel
theorem dX11_isReached_11 : decode cX11_isReached 11 = .ok (.aload_n 0, 1) := by decide +kernel
theorem dX11_isReached_12 : decode cX11_isReached 12 = .ok (.getfield 13, 3) := by decide +kernel
theorem dX11_isReached_15 : decode cX11_isReached 15 = .ok (.bipush 15, 2) := by decide +kernel
theorem dX11_isReached_17 : decode cX11_isReached 17 = .ok (.iaload, 1) := by decide +kernel
theorem dX11_isReached_18 : decode cX11_isReached 18 = .ok (.iand, 1) := by decide +kernel
theorem dX11_isReached_19 : decode cX11_isReached 19 = .ok (.ifCond .eq 7, 3) := by decide +kernel
theorem dX11_isReached_22 : decode cX11_isReached 22 = .ok (.iconst 1, 1) := by decide +kernel
theorem dX11_isReached_23 : decode cX11_isReached 23 = .ok (.goto 4, 3) := by decide +kernel
theorem dX11_isReached_26 : decode cX11_isReached 26 = .ok (.iconst 0, 1) := by decide +kernel
theorem dX11_isReached_27 : decode cX11_isReached 27 = .ok (.ireturn, 1) := by decide +kernel
set_option maxRecDepth 20000 in
theorem ggX11_isJumping_X11_isReached : GoodIn wsX11_isJumping wsX11_isReached := goodIn_ca (goodIn_r _ [6, 7, 8, 9, 10, 5, 11, 12, 13, 14, 15, 16, 17, 18, 19, 20, 21, 22, 23, 24, 25, 26, 27, 28, 29, 30, 31, 32, 33, 34, 35, 36, 37, 38, 39, 40, 41] (by decide +kernel) (by decide +kernel)) (goodIn_sub (fun _ h => List.mem_cons_of_mem _ (List.mem_append_right _ h)) (gsub_f _))
set_option maxRecDepth 20000 in
theorem gX11_isJumping_X11_isReached : GoodIn wsX11_isJumping (wsV RX11 154 RX11 yX11_isReached wsX11_isReached) := goodIn_app (goodIn_of _ (by decide +kernel)) ggX11_isJumping_X11_isReached
theorem dX11_isJumping_0 : decode cX11_isJumping 0 = .ok (.iconst 0, 1) := by decide +kernel
theorem dX11_isJumping_1 : decode cX11_isJumping 1 = .ok (.istore_n 3, 1) := by decide +kernel
theorem dX11_isJumping_2 : decode cX11_isJumping 2 = .ok (.iload_n 3, 1) := by decide +kernel
theorem dX11_isJumping_3 : decode cX11_isJumping 3 = .ok (.iconst 3, 1) := by decide +kernel
theorem dX11_isJumping_4 : decode cX11_isJumping 4 = .ok (.if_icmp .ge 16, 3) := by decide +kernel
theorem dX11_isJumping_7 : decode cX11_isJumping 7 = .ok (.aload_n 0, 1) := by decide +kernel
theorem dX11_isJumping_8 : decode cX11_isJumping 8 = .ok (.getfield 57, 3) := by decide +kernel
theorem dX11_isJumping_11 : decode cX11_isJumping 11 = .ok (.iload_n 3, 1) := by decide +kernel
theorem dX11_isJumping_12 : decode cX11_isJumping 12 = .ok (.iconst 0, 1) := by decide +kernel
theorem dX11_isJumping_13 : decode cX11_isJumping 13 = .ok (.iastore, 1) := by decide +kernel
theorem dX11_isJumping_14 : decode cX11_isJumping 14 = .ok (.iinc 3 1, 3) := by decide +kernel
theorem dX11_isJumping_17 : decode cX11_isJumping 17 = .ok (.goto (-15), 3) := by decide +kernel
theorem dX11_isJumping_20 : decode cX11_isJumping 20 = .ok (.iconst 0, 1) := by decide +kernel
theorem dX11_isJumping_21 : decode cX11_isJumping 21 = .ok (.istore_n 3, 1) := by decide +kernel
theorem dX11_isJumping_22 : decode cX11_isJumping 22 = .ok (.iload_n 3, 1) := by decide +kernel
theorem dX11_isJumping_23 : decode cX11_isJumping 23 = .ok (.iload_n 2, 1) := by decide +kernel
theorem dX11_isJumping_24 : decode cX11_isJumping 24 = .ok (.if_icmp .ge 21, 3) := by decide +kernel
theorem dX11_isJumping_27 : decode cX11_isJumping 27 = .ok (.aload_n 0, 1) := by decide +kernel
theorem dX11_isJumping_28 : decode cX11_isJumping 28 = .ok (.getfield 57, 3) := by decide +kernel
theorem dX11_isJumping_31 : decode cX11_isJumping 31 = .ok (.aload_n 1, 1) := by decide +kernel
theorem dX11_isJumping_32 : decode cX11_isJumping 32 = .ok (.iload_n 3, 1) := by decide +kernel
theorem dX11_isJumping_33 : decode cX11_isJumping 33 = .ok (.iaload, 1) := by decide +kernel
theorem dX11_isJumping_34 : decode cX11_isJumping 34 = .ok (.dup2, 1) := by decide +kernel
theorem dX11_isJumping_35 : decode cX11_isJumping 35 = .ok (.iaload, 1) := by decide +kernel
theorem dX11_isJumping_36 : decode cX11_isJumping 36 = .ok (.iconst 1, 1) := by decide +kernel
theorem dX11_isJumping_37 : decode cX11_isJumping 37 = .ok (.iadd, 1) := by decide +kernel
theorem dX11_isJumping_38 : decode cX11_isJumping 38 = .ok (.iastore, 1) := by decide +kernel
theorem dX11_isJumping_39 : decode cX11_isJumping 39 = .ok (.iinc 3 1, 3) := by decide +kernel
theorem dX11_isJumping_42 : decode cX11_isJumping 42 = .ok (.goto (-20), 3) := by decide +kernel
theorem dX11_isJumping_45 : decode cX11_isJumping 45 = .ok (.aload_n 0, 1) := by decide +kernel
theorem dX11_isJumping_46 : decode cX11_isJumping 46 = .ok (.aload_n 0, 1) := by decide +kernel
theorem dX11_isJumping_47 : decode cX11_isJumping 47 = .ok (.getfield 57, 3) := by decide +kernel
theorem dX11_isJumping_50 : decode cX11_isJumping 50 = .ok (.iconst 0, 1) := by decide +kernel
theorem dX11_isJumping_51 : decode cX11_isJumping 51 = .ok (.iaload, 1) := by decide +kernel
theorem dX11_isJumping_52 : decode cX11_isJumping 52 = .ok (.aload_n 0, 1) := by decide +kernel
theorem dX11_isJumping_53 : decode cX11_isJumping 53 = .ok (.getfield 57, 3) := by decide +kernel
theorem dX11_isJumping_56 : decode cX11_isJumping 56 = .ok (.iconst 1, 1) := by decide +kernel
theorem dX11_isJumping_57 : decode cX11_isJumping 57 = .ok (.iaload, 1) := by decide +kernel
theorem dX11_isJumping_58 : decode cX11_isJumping 58 = .ok (.aload_n 0, 1) := by decide +kernel
theorem dX11_isJumping_59 : decode cX11_isJumping 59 = .ok (.getfield 57, 3) := by decide +kernel
theorem dX11_isJumping_62 : decode cX11_isJumping 62 = .ok (.iconst 2, 1) := by decide +kernel
theorem dX11_isJumping_63 : decode cX11_isJumping 63 = .ok (.iaload, 1) := by decide +kernel
theorem dX11_isJumping_64 : decode cX11_isJumping 64 = .ok (.invokevirtual 154, 3) := by decide +kernel
theorem dX11_isJumping_67 : decode cX11_isJumping 67 = .ok (.ireturn, 1) := by decide +kernel
theorem dX11_single_0 : decode cX11_single 0 = .ok (.iconst 0, 1) := by decide +kernel
theorem dX11_single_1 : decode cX11_single 1 = .ok (.istore_n 1, 1) := by decide +kernel
theorem dX11_single_2 : decode cX11_single 2 = .ok (.iload_n 0, 1) := by decide +kernel
theorem dX11_single_3 : decode cX11_single 3 = .ok (.iload_n 1, 1) := by decide +kernel
theorem dX11_single_4 : decode cX11_single 4 = .ok (.ishr, 1) := by decide +kernel
theorem dX11_single_5 : decode cX11_single 5 = .ok (.iconst 1, 1) := by decide +kernel
theorem dX11_single_6 : decode cX11_single 6 = .ok (.if_icmp .le 9, 3) := by decide +kernel
theorem dX11_single_9 : decode cX11_single 9 = .ok (.iinc 1 1, 3) := by decide +kernel
theorem dX11_single_12 : decode cX11_single 12 = .ok (.goto (-10), 3) := by decide +kernel
theorem dX11_single_15 : decode cX11_single 15 = .ok (.iload_n 1, 1) := by decide +kernel
theorem dX11_single_16 : decode cX11_single 16 = .ok (.ireturn, 1) := by decide +kernel
set_option maxRecDepth 20000 in
theorem ggX11_goesOneWay_X11_next : GoodIn wsX11_goesOneWay wsX11_next := goodIn_ca (goodIn_r _ [9, 10, 14, 15, 16, 17, 18, 19, 20, 21, 22, 23, 24, 25, 26, 27, 28, 29, 30, 31, 32, 33, 34, 35, 36, 37, 38, 39, 40, 41, 42, 43] (by decide +kernel) (by decide +kernel)) (goodIn_sub (fun _ h => List.mem_cons_of_mem _ (List.mem_append_left _ (List.mem_append_right _ h))) (gsub_f _))
set_option maxRecDepth 20000 in
theorem gX11_goesOneWay_X11_next : GoodIn wsX11_goesOneWay (wsV RX11 133 RX11 yX11_next wsX11_next) := goodIn_app (goodIn_of _ (by decide +kernel)) ggX11_goesOneWay_X11_next
set_option maxRecDepth 20000 in
theorem ggX11_goesOneWay_X11_single : GoodIn wsX11_goesOneWay wsX11_single := goodIn_r _ [13] (by decide +kernel) (by decide +kernel)
set_option maxRecDepth 20000 in
theorem gX11_goesOneWay_X11_single : GoodIn wsX11_goesOneWay (va_wsS RX11 157 yX11_single wsX11_single) := goodIn_app (goodIn_of _ (by decide +kernel)) ggX11_goesOneWay_X11_single
theorem dX11_goesOneWay_0 : decode cX11_goesOneWay 0 = .ok (.aload_n 0, 1) := by decide +kernel
theorem dX11_goesOneWay_1 : decode cX11_goesOneWay 1 = .ok (.iload_n 2, 1) := by decide +kernel
theorem dX11_goesOneWay_2 : decode cX11_goesOneWay 2 = .ok (.putfield 66, 3) := by decide +kernel
theorem dX11_goesOneWay_5 : decode cX11_goesOneWay 5 = .ok (.aload_n 0, 1) := by decide +kernel
theorem dX11_goesOneWay_6 : decode cX11_goesOneWay 6 = .ok (.iconst 0, 1) := by decide +kernel
theorem dX11_goesOneWay_7 : decode cX11_goesOneWay 7 = .ok (.putfield 63, 3) := by decide +kernel
theorem dX11_goesOneWay_10 : decode cX11_goesOneWay 10 = .ok (.aload_n 0, 1) := by decide +kernel
theorem dX11_goesOneWay_11 : decode cX11_goesOneWay 11 = .ok (.iconst 0, 1) := by decide +kernel
theorem dX11_goesOneWay_12 : decode cX11_goesOneWay 12 = .ok (.putfield 69, 3) := by decide +kernel
theorem dX11_goesOneWay_15 : decode cX11_goesOneWay 15 = .ok (.iconst 0, 1) := by decide +kernel
theorem dX11_goesOneWay_16 : decode cX11_goesOneWay 16 = .ok (.istore_n 3, 1) := by decide +kernel
theorem dX11_goesOneWay_17 : decode cX11_goesOneWay 17 = .ok (.iload_n 3, 1) := by decide +kernel
theorem dX11_goesOneWay_18 : decode cX11_goesOneWay 18 = .ok (.iload_n 2, 1) := by decide +kernel
theorem dX11_goesOneWay_19 : decode cX11_goesOneWay 19 = .ok (.if_icmp .ge 18, 3) := by decide +kernel
theorem dX11_goesOneWay_22 : decode cX11_goesOneWay 22 = .ok (.aload_n 0, 1) := by decide +kernel
theorem dX11_goesOneWay_23 : decode cX11_goesOneWay 23 = .ok (.getfield 60, 3) := by decide +kernel
theorem dX11_goesOneWay_26 : decode cX11_goesOneWay 26 = .ok (.iload_n 3, 1) := by decide +kernel
theorem dX11_goesOneWay_27 : decode cX11_goesOneWay 27 = .ok (.aload_n 1, 1) := by decide +kernel
theorem dX11_goesOneWay_28 : decode cX11_goesOneWay 28 = .ok (.iload_n 3, 1) := by decide +kernel
theorem dX11_goesOneWay_29 : decode cX11_goesOneWay 29 = .ok (.iaload, 1) := by decide +kernel
theorem dX11_goesOneWay_30 : decode cX11_goesOneWay 30 = .ok (.iastore, 1) := by decide +kernel
theorem dX11_goesOneWay_31 : decode cX11_goesOneWay 31 = .ok (.iinc 3 1, 3) := by decide +kernel
theorem dX11_goesOneWay_34 : decode cX11_goesOneWay 34 = .ok (.goto (-17), 3) := by decide +kernel
theorem dX11_goesOneWay_37 : decode cX11_goesOneWay 37 = .ok (.iconst 0, 1) := by decide +kernel
theorem dX11_goesOneWay_38 : decode cX11_goesOneWay 38 = .ok (.istore_n 3, 1) := by decide +kernel
theorem dX11_goesOneWay_39 : decode cX11_goesOneWay 39 = .ok (.aload_n 0, 1) := by decide +kernel
theorem dX11_goesOneWay_40 : decode cX11_goesOneWay 40 = .ok (.getfield 66, 3) := by decide +kernel
theorem dX11_goesOneWay_43 : decode cX11_goesOneWay 43 = .ok (.ifCond .le 173, 3) := by decide +kernel
theorem dX11_goesOneWay_46 : decode cX11_goesOneWay 46 = .ok (.iconst 0, 1) := by decide +kernel
theorem dX11_goesOneWay_47 : decode cX11_goesOneWay 47 = .ok (.istore 4, 2) := by decide +kernel
theorem dX11_goesOneWay_49 : decode cX11_goesOneWay 49 = .ok (.iload 4, 2) := by decide +kernel
theorem dX11_goesOneWay_51 : decode cX11_goesOneWay 51 = .ok (.aload_n 0, 1) := by decide +kernel
theorem dX11_goesOneWay_52 : decode cX11_goesOneWay 52 = .ok (.getfield 66, 3) := by decide +kernel
theorem dX11_goesOneWay_55 : decode cX11_goesOneWay 55 = .ok (.if_icmp .ge 34, 3) := by decide +kernel
theorem dX11_goesOneWay_58 : decode cX11_goesOneWay 58 = .ok (.aload_n 0, 1) := by decide +kernel
theorem dX11_goesOneWay_59 : decode cX11_goesOneWay 59 = .ok (.aload_n 0, 1) := by decide +kernel
theorem dX11_goesOneWay_60 : decode cX11_goesOneWay 60 = .ok (.getfield 69, 3) := by decide +kernel
theorem dX11_goesOneWay_63 : decode cX11_goesOneWay 63 = .ok (.aload_n 0, 1) := by decide +kernel
theorem dX11_goesOneWay_64 : decode cX11_goesOneWay 64 = .ok (.getfield 60, 3) := by decide +kernel
theorem dX11_goesOneWay_67 : decode cX11_goesOneWay 67 = .ok (.iload_n 3, 1) := by decide +kernel
theorem dX11_goesOneWay_68 : decode cX11_goesOneWay 68 = .ok (.iload 4, 2) := by decide +kernel
theorem dX11_goesOneWay_70 : decode cX11_goesOneWay 70 = .ok (.iadd, 1) := by decide +kernel
theorem dX11_goesOneWay_71 : decode cX11_goesOneWay 71 = .ok (.aload_n 0, 1) := by decide +kernel
theorem dX11_goesOneWay_72 : decode cX11_goesOneWay 72 = .ok (.getfield 66, 3) := by decide +kernel
theorem dX11_goesOneWay_75 : decode cX11_goesOneWay 75 = .ok (.irem, 1) := by decide +kernel
theorem dX11_goesOneWay_76 : decode cX11_goesOneWay 76 = .ok (.iaload, 1) := by decide +kernel
theorem dX11_goesOneWay_77 : decode cX11_goesOneWay 77 = .ok (.invokevirtual 133, 3) := by decide +kernel
theorem dX11_goesOneWay_80 : decode cX11_goesOneWay 80 = .ok (.ifCond .ne 9, 3) := by decide +kernel
theorem dX11_goesOneWay_83 : decode cX11_goesOneWay 83 = .ok (.iinc 4 1, 3) := by decide +kernel
theorem dX11_goesOneWay_86 : decode cX11_goesOneWay 86 = .ok (.goto (-37), 3) := by decide +kernel
theorem dX11_goesOneWay_89 : decode cX11_goesOneWay 89 = .ok (.iload 4, 2) := by decide +kernel
theorem dX11_goesOneWay_91 : decode cX11_goesOneWay 91 = .ok (.aload_n 0, 1) := by decide +kernel
theorem dX11_goesOneWay_92 : decode cX11_goesOneWay 92 = .ok (.getfield 66, 3) := by decide +kernel
theorem dX11_goesOneWay_95 : decode cX11_goesOneWay 95 = .ok (.if_icmp .ne 4, 3) := by decide +kernel
theorem dX11_goesOneWay_98 : decode cX11_goesOneWay 98 = .ok (.return_, 1) := by decide +kernel
theorem dX11_goesOneWay_99 : decode cX11_goesOneWay 99 = .ok (.aload_n 0, 1) := by decide +kernel
theorem dX11_goesOneWay_100 : decode cX11_goesOneWay 100 = .ok (.dup, 1) := by decide +kernel
theorem dX11_goesOneWay_101 : decode cX11_goesOneWay 101 = .ok (.getfield 63, 3) := by decide +kernel
theorem dX11_goesOneWay_104 : decode cX11_goesOneWay 104 = .ok (.iload 4, 2) := by decide +kernel
theorem dX11_goesOneWay_106 : decode cX11_goesOneWay 106 = .ok (.ifCond .le 7, 3) := by decide +kernel
theorem dX11_goesOneWay_109 : decode cX11_goesOneWay 109 = .ok (.iconst 1, 1) := by decide +kernel
theorem dX11_goesOneWay_110 : decode cX11_goesOneWay 110 = .ok (.goto 4, 3) := by decide +kernel
theorem dX11_goesOneWay_113 : decode cX11_goesOneWay 113 = .ok (.iconst 0, 1) := by decide +kernel
theorem dX11_goesOneWay_114 : decode cX11_goesOneWay 114 = .ok (.iadd, 1) := by decide +kernel
theorem dX11_goesOneWay_115 : decode cX11_goesOneWay 115 = .ok (.putfield 63, 3) := by decide +kernel
theorem dX11_goesOneWay_118 : decode cX11_goesOneWay 118 = .ok (.iload_n 3, 1) := by decide +kernel
theorem dX11_goesOneWay_119 : decode cX11_goesOneWay 119 = .ok (.iload 4, 2) := by decide +kernel
theorem dX11_goesOneWay_121 : decode cX11_goesOneWay 121 = .ok (.iadd, 1) := by decide +kernel
theorem dX11_goesOneWay_122 : decode cX11_goesOneWay 122 = .ok (.aload_n 0, 1) := by decide +kernel
theorem dX11_goesOneWay_123 : decode cX11_goesOneWay 123 = .ok (.getfield 66, 3) := by decide +kernel
theorem dX11_goesOneWay_126 : decode cX11_goesOneWay 126 = .ok (.irem, 1) := by decide +kernel
theorem dX11_goesOneWay_127 : decode cX11_goesOneWay 127 = .ok (.istore_n 3, 1) := by decide +kernel
theorem dX11_goesOneWay_128 : decode cX11_goesOneWay 128 = .ok (.aload_n 0, 1) := by decide +kernel
theorem dX11_goesOneWay_129 : decode cX11_goesOneWay 129 = .ok (.aload_n 0, 1) := by decide +kernel
theorem dX11_goesOneWay_130 : decode cX11_goesOneWay 130 = .ok (.aload_n 0, 1) := by decide +kernel
theorem dX11_goesOneWay_131 : decode cX11_goesOneWay 131 = .ok (.getfield 69, 3) := by decide +kernel
theorem dX11_goesOneWay_134 : decode cX11_goesOneWay 134 = .ok (.aload_n 0, 1) := by decide +kernel
theorem dX11_goesOneWay_135 : decode cX11_goesOneWay 135 = .ok (.getfield 60, 3) := by decide +kernel
theorem dX11_goesOneWay_138 : decode cX11_goesOneWay 138 = .ok (.iload_n 3, 1) := by decide +kernel
theorem dX11_goesOneWay_139 : decode cX11_goesOneWay 139 = .ok (.iaload, 1) := by decide +kernel
theorem dX11_goesOneWay_140 : decode cX11_goesOneWay 140 = .ok (.invokevirtual 133, 3) := by decide +kernel
theorem dX11_goesOneWay_143 : decode cX11_goesOneWay 143 = .ok (.invokestatic 157, 3) := by decide +kernel
theorem dX11_goesOneWay_146 : decode cX11_goesOneWay 146 = .ok (.putfield 69, 3) := by decide +kernel
theorem dX11_goesOneWay_149 : decode cX11_goesOneWay 149 = .ok (.iload_n 3, 1) := by decide +kernel
theorem dX11_goesOneWay_150 : decode cX11_goesOneWay 150 = .ok (.istore 5, 2) := by decide +kernel
theorem dX11_goesOneWay_152 : decode cX11_goesOneWay 152 = .ok (.iload 5, 2) := by decide +kernel
theorem dX11_goesOneWay_154 : decode cX11_goesOneWay 154 = .ok (.iconst 1, 1) := by decide +kernel
theorem dX11_goesOneWay_155 : decode cX11_goesOneWay 155 = .ok (.iadd, 1) := by decide +kernel
theorem dX11_goesOneWay_156 : decode cX11_goesOneWay 156 = .ok (.aload_n 0, 1) := by decide +kernel
theorem dX11_goesOneWay_157 : decode cX11_goesOneWay 157 = .ok (.getfield 66, 3) := by decide +kernel
theorem dX11_goesOneWay_160 : decode cX11_goesOneWay 160 = .ok (.if_icmp .ge 25, 3) := by decide +kernel
theorem dX11_goesOneWay_163 : decode cX11_goesOneWay 163 = .ok (.aload_n 0, 1) := by decide +kernel
theorem dX11_goesOneWay_164 : decode cX11_goesOneWay 164 = .ok (.getfield 60, 3) := by decide +kernel
theorem dX11_goesOneWay_167 : decode cX11_goesOneWay 167 = .ok (.iload 5, 2) := by decide +kernel
theorem dX11_goesOneWay_169 : decode cX11_goesOneWay 169 = .ok (.aload_n 0, 1) := by decide +kernel
theorem dX11_goesOneWay_170 : decode cX11_goesOneWay 170 = .ok (.getfield 60, 3) := by decide +kernel
theorem dX11_goesOneWay_173 : decode cX11_goesOneWay 173 = .ok (.iload 5, 2) := by decide +kernel
theorem dX11_goesOneWay_175 : decode cX11_goesOneWay 175 = .ok (.iconst 1, 1) := by decide +kernel
theorem dX11_goesOneWay_176 : decode cX11_goesOneWay 176 = .ok (.iadd, 1) := by decide +kernel
theorem dX11_goesOneWay_177 : decode cX11_goesOneWay 177 = .ok (.iaload, 1) := by decide +kernel
theorem dX11_goesOneWay_178 : decode cX11_goesOneWay 178 = .ok (.iastore, 1) := by decide +kernel
theorem dX11_goesOneWay_179 : decode cX11_goesOneWay 179 = .ok (.iinc 5 1, 3) := by decide +kernel
theorem dX11_goesOneWay_182 : decode cX11_goesOneWay 182 = .ok (.goto (-30), 3) := by decide +kernel
theorem dX11_goesOneWay_185 : decode cX11_goesOneWay 185 = .ok (.aload_n 0, 1) := by decide +kernel
theorem dX11_goesOneWay_186 : decode cX11_goesOneWay 186 = .ok (.dup, 1) := by decide +kernel
theorem dX11_goesOneWay_187 : decode cX11_goesOneWay 187 = .ok (.getfield 66, 3) := by decide +kernel
theorem dX11_goesOneWay_190 : decode cX11_goesOneWay 190 = .ok (.iconst 1, 1) := by decide +kernel
theorem dX11_goesOneWay_191 : decode cX11_goesOneWay 191 = .ok (.isub, 1) := by decide +kernel
theorem dX11_goesOneWay_192 : decode cX11_goesOneWay 192 = .ok (.putfield 66, 3) := by decide +kernel
theorem dX11_goesOneWay_195 : decode cX11_goesOneWay 195 = .ok (.aload_n 0, 1) := by decide +kernel
theorem dX11_goesOneWay_196 : decode cX11_goesOneWay 196 = .ok (.getfield 66, 3) := by decide +kernel
theorem dX11_goesOneWay_199 : decode cX11_goesOneWay 199 = .ok (.ifCond .le 12, 3) := by decide +kernel
theorem dX11_goesOneWay_202 : decode cX11_goesOneWay 202 = .ok (.iload_n 3, 1) := by decide +kernel
theorem dX11_goesOneWay_203 : decode cX11_goesOneWay 203 = .ok (.aload_n 0, 1) := by decide +kernel
theorem dX11_goesOneWay_204 : decode cX11_goesOneWay 204 = .ok (.getfield 66, 3) := by decide +kernel
theorem dX11_goesOneWay_207 : decode cX11_goesOneWay 207 = .ok (.irem, 1) := by decide +kernel
theorem dX11_goesOneWay_208 : decode cX11_goesOneWay 208 = .ok (.goto 4, 3) := by decide +kernel
theorem dX11_goesOneWay_211 : decode cX11_goesOneWay 211 = .ok (.iconst 0, 1) := by decide +kernel
theorem dX11_goesOneWay_212 : decode cX11_goesOneWay 212 = .ok (.istore_n 3, 1) := by decide +kernel
theorem dX11_goesOneWay_213 : decode cX11_goesOneWay 213 = .ok (.goto (-174), 3) := by decide +kernel
theorem dX11_goesOneWay_216 : decode cX11_goesOneWay 216 = .ok (.return_, 1) := by decide +kernel
set_option maxRecDepth 20000 in
theorem ggX11_isAccepted_X11_isInOrder : GoodIn wsX11_isAccepted wsX11_isInOrder := goodIn_ca (goodIn_r _ [8, 2, 9, 10, 11, 7, 12, 13, 14, 15, 16, 17, 18, 19, 42, 43, 44, 45, 46, 47, 48, 49, 50, 51, 52, 53, 54, 55, 56, 57, 58, 59, 60, 61, 62, 63, 64, 65, 66, 67, 68, 69, 70, 71] (by decide +kernel) (by decide +kernel)) (goodIn_sub (fun _ h => List.mem_cons_of_mem _ (List.mem_append_left _ (List.mem_append_right _ h))) (gsub_f _))
set_option maxRecDepth 20000 in
theorem gX11_isAccepted_X11_isInOrder : GoodIn wsX11_isAccepted (wsV RX11 160 RX11 yX11_isInOrder wsX11_isInOrder) := goodIn_app (goodIn_r _ [4, 5, 6, 7] (by decide +kernel) (by decide +kernel)) ggX11_isAccepted_X11_isInOrder
set_option maxRecDepth 20000 in
theorem ggX11_isAccepted_X11_isJumping : GoodIn wsX11_isAccepted wsX11_isJumping := goodIn_ca (goodIn_r _ [23, 24, 25, 26, 27, 7, 28, 29, 2, 30, 31, 32, 42, 43, 44, 45, 46, 47, 48, 49, 50, 51, 52, 53, 54, 55, 56, 57, 58, 59, 60, 61, 62, 63, 64, 65, 66, 67, 68, 69, 70, 71] (by decide +kernel) (by decide +kernel)) (goodIn_sub (fun _ h => List.mem_cons_of_mem _ (List.mem_append_left _ (List.mem_append_right _ h))) (gsub_f _))
set_option maxRecDepth 20000 in
theorem gX11_isAccepted_X11_isJumping : GoodIn wsX11_isAccepted (wsV RX11 164 RX11 yX11_isJumping wsX11_isJumping) := goodIn_app (goodIn_r _ [20, 21, 22, 7] (by decide +kernel) (by decide +kernel)) ggX11_isAccepted_X11_isJumping
set_option maxRecDepth 20000 in
theorem ggX11_isAccepted_X11_goesOneWay : GoodIn wsX11_isAccepted wsX11_goesOneWay := goodIn_ca (goodIn_ca (goodIn_r _ [36, 1, 37, 3, 38, 16, 17, 18, 7, 19, 2, 39, 40, 41, 42, 43, 44, 45, 46, 47, 48, 49, 50, 51, 52, 53, 54, 55, 56, 57, 58, 59, 60, 61, 62, 63, 64, 65, 66, 67, 68, 69, 70, 71] (by decide +kernel) (by decide +kernel)) (goodIn_sub (fun _ h => List.mem_cons_of_mem _ (List.mem_append_left _ (List.mem_append_right _ h))) (gsub_f _))) (goodIn_sub (fun _ h => List.mem_cons_of_mem _ (List.mem_append_right _ h)) (gsub_f _))
set_option maxRecDepth 20000 in
theorem gX11_isAccepted_X11_goesOneWay : GoodIn wsX11_isAccepted (wsV RX11 167 RX11 yX11_goesOneWay wsX11_goesOneWay) := goodIn_app (goodIn_r _ [33, 34, 35, 7] (by decide +kernel) (by decide +kernel)) ggX11_isAccepted_X11_goesOneWay
set_option maxRecDepth 20000 in
theorem ggX11_isAccepted_X11_has : GoodIn wsX11_isAccepted wsX11_has := goodIn_r _ [15] (by decide +kernel) (by decide +kernel)
set_option maxRecDepth 20000 in
theorem gX11_isAccepted_X11_has : GoodIn wsX11_isAccepted (va_wsS RX11 136 yX11_has wsX11_has) := goodIn_app (goodIn_r _ [13, 14, 7] (by decide +kernel) (by decide +kernel)) ggX11_isAccepted_X11_has
theorem dX11_isAccepted_0 : decode cX11_isAccepted 0 = .ok (.iload_n 1, 1) := by decide +kernel
theorem dX11_isAccepted_1 : decode cX11_isAccepted 1 = .ok (.ifCond .ne 10, 3) := by decide +kernel
theorem dX11_isAccepted_4 : decode cX11_isAccepted 4 = .ok (.aload_n 0, 1) := by decide +kernel
theorem dX11_isAccepted_5 : decode cX11_isAccepted 5 = .ok (.aload_n 2, 1) := by decide +kernel
theorem dX11_isAccepted_6 : decode cX11_isAccepted 6 = .ok (.iload_n 3, 1) := by decide +kernel
theorem dX11_isAccepted_7 : decode cX11_isAccepted 7 = .ok (.invokevirtual 160, 3) := by decide +kernel
theorem dX11_isAccepted_10 : decode cX11_isAccepted 10 = .ok (.ireturn, 1) := by decide +kernel
theorem dX11_isAccepted_11 : decode cX11_isAccepted 11 = .ok (.iload_n 1, 1) := by decide +kernel
theorem dX11_isAccepted_12 : decode cX11_isAccepted 12 = .ok (.iconst 1, 1) := by decide +kernel
theorem dX11_isAccepted_13 : decode cX11_isAccepted 13 = .ok (.if_icmp .ne 10, 3) := by decide +kernel
theorem dX11_isAccepted_16 : decode cX11_isAccepted 16 = .ok (.aload_n 0, 1) := by decide +kernel
theorem dX11_isAccepted_17 : decode cX11_isAccepted 17 = .ok (.aload_n 2, 1) := by decide +kernel
theorem dX11_isAccepted_18 : decode cX11_isAccepted 18 = .ok (.iload_n 3, 1) := by decide +kernel
theorem dX11_isAccepted_19 : decode cX11_isAccepted 19 = .ok (.invokevirtual 164, 3) := by decide +kernel
theorem dX11_isAccepted_22 : decode cX11_isAccepted 22 = .ok (.ireturn, 1) := by decide +kernel
theorem dX11_isAccepted_23 : decode cX11_isAccepted 23 = .ok (.aload_n 0, 1) := by decide +kernel
theorem dX11_isAccepted_24 : decode cX11_isAccepted 24 = .ok (.aload_n 2, 1) := by decide +kernel
theorem dX11_isAccepted_25 : decode cX11_isAccepted 25 = .ok (.iload_n 3, 1) := by decide +kernel
theorem dX11_isAccepted_26 : decode cX11_isAccepted 26 = .ok (.invokevirtual 167, 3) := by decide +kernel
theorem dX11_isAccepted_29 : decode cX11_isAccepted 29 = .ok (.aload_n 0, 1) := by decide +kernel
theorem dX11_isAccepted_30 : decode cX11_isAccepted 30 = .ok (.getfield 66, 3) := by decide +kernel
theorem dX11_isAccepted_33 : decode cX11_isAccepted 33 = .ok (.ifCond .ne 24, 3) := by decide +kernel
theorem dX11_isAccepted_36 : decode cX11_isAccepted 36 = .ok (.aload_n 0, 1) := by decide +kernel
theorem dX11_isAccepted_37 : decode cX11_isAccepted 37 = .ok (.getfield 13, 3) := by decide +kernel
theorem dX11_isAccepted_40 : decode cX11_isAccepted 40 = .ok (.bipush 15, 2) := by decide +kernel
theorem dX11_isAccepted_42 : decode cX11_isAccepted 42 = .ok (.iaload, 1) := by decide +kernel
theorem dX11_isAccepted_43 : decode cX11_isAccepted 43 = .ok (.aload_n 0, 1) := by decide +kernel
theorem dX11_isAccepted_44 : decode cX11_isAccepted 44 = .ok (.getfield 69, 3) := by decide +kernel
theorem dX11_isAccepted_47 : decode cX11_isAccepted 47 = .ok (.invokestatic 136, 3) := by decide +kernel
theorem dX11_isAccepted_50 : decode cX11_isAccepted 50 = .ok (.ifCond .eq 7, 3) := by decide +kernel
theorem dX11_isAccepted_53 : decode cX11_isAccepted 53 = .ok (.iconst 1, 1) := by decide +kernel
theorem dX11_isAccepted_54 : decode cX11_isAccepted 54 = .ok (.goto 4, 3) := by decide +kernel
theorem dX11_isAccepted_57 : decode cX11_isAccepted 57 = .ok (.iconst 0, 1) := by decide +kernel
theorem dX11_isAccepted_58 : decode cX11_isAccepted 58 = .ok (.ireturn, 1) := by decide +kernel
set_option maxRecDepth 20000 in
theorem ggX11_lacksMode_X11_isDeterministic : GoodIn wsX11_lacksMode wsX11_isDeterministic := goodIn_ca (goodIn_r _ [5, 6, 7, 8, 4, 9, 10, 11, 12, 13, 14, 15, 16, 17, 18, 19, 20, 21, 22, 23, 24, 25, 26, 27, 28, 29, 30, 31, 32, 33, 34, 35, 36, 37, 38, 39] (by decide +kernel) (by decide +kernel)) (goodIn_sub (fun _ h => List.mem_cons_of_mem _ (List.mem_append_right _ h)) (gsub_f _))
set_option maxRecDepth 20000 in
theorem gX11_lacksMode_X11_isDeterministic : GoodIn wsX11_lacksMode (wsV RX11 171 RX11 yX11_isDeterministic wsX11_isDeterministic) := goodIn_app (goodIn_of _ (by decide +kernel)) ggX11_lacksMode_X11_isDeterministic
theorem dX11_lacksMode_0 : decode cX11_lacksMode 0 = .ok (.iload_n 1, 1) := by decide +kernel
theorem dX11_lacksMode_1 : decode cX11_lacksMode 1 = .ok (.iconst 2, 1) := by decide +kernel
theorem dX11_lacksMode_2 : decode cX11_lacksMode 2 = .ok (.if_icmp .ne 14, 3) := by decide +kernel
theorem dX11_lacksMode_5 : decode cX11_lacksMode 5 = .ok (.aload_n 0, 1) := by decide +kernel
theorem dX11_lacksMode_6 : decode cX11_lacksMode 6 = .ok (.invokevirtual 171, 3) := by decide +kernel
theorem dX11_lacksMode_9 : decode cX11_lacksMode 9 = .ok (.ifCond .ne 7, 3) := by decide +kernel
theorem dX11_lacksMode_12 : decode cX11_lacksMode 12 = .ok (.iconst 1, 1) := by decide +kernel
theorem dX11_lacksMode_13 : decode cX11_lacksMode 13 = .ok (.goto 4, 3) := by decide +kernel
theorem dX11_lacksMode_16 : decode cX11_lacksMode 16 = .ok (.iconst 0, 1) := by decide +kernel
theorem dX11_lacksMode_17 : decode cX11_lacksMode 17 = .ok (.ireturn, 1) := by decide +kernel
set_option maxRecDepth 20000 in
theorem ggX11_accepts_X11_in : GoodIn wsX11_accepts wsX11_in := goodIn_r _ [7] (by decide +kernel) (by decide +kernel)
set_option maxRecDepth 20000 in
theorem gX11_accepts_X11_in : GoodIn wsX11_accepts (va_wsS RX11 105 yX11_in wsX11_in) := goodIn_app (goodIn_r _ [4, 5, 6] (by decide +kernel) (by decide +kernel)) ggX11_accepts_X11_in
set_option maxRecDepth 20000 in
theorem ggX11_accepts_X11_fails : GoodIn wsX11_accepts wsX11_fails := goodIn_r _ [11, 1, 71, 72, 73, 74, 75, 76, 77, 78, 79, 80, 81, 82, 83, 84, 85, 86, 87, 88, 89, 90, 91, 92, 93, 94, 95, 96, 97, 98, 99, 100] (by decide +kernel) (by decide +kernel)
set_option maxRecDepth 20000 in
theorem gX11_accepts_X11_fails : GoodIn wsX11_accepts (wsV RX11 109 RX11 yX11_fails wsX11_fails) := goodIn_app (goodIn_r _ [8, 9, 10, 6] (by decide +kernel) (by decide +kernel)) ggX11_accepts_X11_fails
set_option maxRecDepth 20000 in
theorem ggX11_accepts_X11_lacksMode : GoodIn wsX11_accepts wsX11_lacksMode := goodIn_ca (goodIn_r _ [15, 16, 17, 18, 6, 19, 20, 21, 22, 23, 71, 72, 73, 74, 75, 76, 77, 78, 79, 80, 81, 82, 83, 84, 85, 86, 87, 88, 89, 90, 91, 92, 93, 94, 95, 96, 97, 98, 99, 100] (by decide +kernel) (by decide +kernel)) (goodIn_sub (fun _ h => List.mem_cons_of_mem _ (List.mem_append_left _ (List.mem_append_right _ h))) (gsub_f _))
set_option maxRecDepth 20000 in
theorem gX11_accepts_X11_lacksMode : GoodIn wsX11_accepts (wsV RX11 175 RX11 yX11_lacksMode wsX11_lacksMode) := goodIn_app (goodIn_r _ [12, 13, 14, 6] (by decide +kernel) (by decide +kernel)) ggX11_accepts_X11_lacksMode
set_option maxRecDepth 20000 in
theorem ggX11_accepts_X11_layReached : GoodIn wsX11_accepts wsX11_layReached := goodIn_ca (goodIn_r _ [27, 28, 29, 30, 6, 31, 32, 33, 34, 35, 36, 37, 38, 39, 40, 41, 42, 20, 71, 72, 73, 74, 75, 76, 77, 78, 79, 80, 81, 82, 83, 84, 85, 86, 87, 88, 89, 90, 91, 92, 93, 94, 95, 96, 97, 98, 99, 100] (by decide +kernel) (by decide +kernel)) (goodIn_sub (fun _ h => List.mem_cons_of_mem _ (List.mem_append_left _ (List.mem_append_right _ h))) (gsub_f _))
set_option maxRecDepth 20000 in
theorem gX11_accepts_X11_layReached : GoodIn wsX11_accepts (wsV RX11 178 RX11 yX11_layReached wsX11_layReached) := goodIn_app (goodIn_r _ [24, 25, 26, 6] (by decide +kernel) (by decide +kernel)) ggX11_accepts_X11_layReached
set_option maxRecDepth 20000 in
theorem ggX11_accepts_X11_isAccepted : GoodIn wsX11_accepts wsX11_isAccepted := goodIn_ca (goodIn_ca (goodIn_r _ [46, 47, 20, 48, 49, 50, 51, 6, 52, 32, 33, 34, 35, 36, 37, 38, 39, 40, 41, 42, 53, 54, 55, 56, 57, 58, 59, 60, 61, 28, 29, 30, 31, 62, 63, 64, 65, 66, 67, 68, 69, 70, 71, 72, 73, 74, 75, 76, 77, 78, 79, 80, 81, 82, 83, 84, 85, 86, 87, 88, 89, 90, 91, 92, 93, 94, 95, 96, 97, 98, 99, 100] (by decide +kernel) (by decide +kernel)) (goodIn_sub (fun _ h => List.mem_cons_of_mem _ (List.mem_append_left _ (List.mem_append_right _ h))) (gsub_f _))) (goodIn_sub (fun _ h => List.mem_cons_of_mem _ (List.mem_append_right _ h)) (gsub_f _))
set_option maxRecDepth 20000 in
theorem gX11_accepts_X11_isAccepted : GoodIn wsX11_accepts (wsV RX11 181 RX11 yX11_isAccepted wsX11_isAccepted) := goodIn_app (goodIn_r _ [43, 44, 45, 6] (by decide +kernel) (by decide +kernel)) ggX11_accepts_X11_isAccepted
theorem dX11_accepts_0 : decode cX11_accepts 0 = .ok (.aload_n 0, 1) := by decide +kernel
theorem dX11_accepts_1 : decode cX11_accepts 1 = .ok (.iconst 0, 1) := by decide +kernel
theorem dX11_accepts_2 : decode cX11_accepts 2 = .ok (.putfield 1, 3) := by decide +kernel
theorem dX11_accepts_5 : decode cX11_accepts 5 = .ok (.iload_n 1, 1) := by decide +kernel
theorem dX11_accepts_6 : decode cX11_accepts 6 = .ok (.iconst 0, 1) := by decide +kernel
theorem dX11_accepts_7 : decode cX11_accepts 7 = .ok (.iconst 2, 1) := by decide +kernel
theorem dX11_accepts_8 : decode cX11_accepts 8 = .ok (.invokestatic 105, 3) := by decide +kernel
theorem dX11_accepts_11 : decode cX11_accepts 11 = .ok (.ifCond .ne 17, 3) := by decide +kernel
theorem dX11_accepts_14 : decode cX11_accepts 14 = .ok (.aload_n 0, 1) := by decide +kernel
theorem dX11_accepts_15 : decode cX11_accepts 15 = .ok (.iconst 1, 1) := by decide +kernel
theorem dX11_accepts_16 : decode cX11_accepts 16 = .ok (.invokevirtual 109, 3) := by decide +kernel
theorem dX11_accepts_19 : decode cX11_accepts 19 = .ok (.ifCond .le 7, 3) := by decide +kernel
theorem dX11_accepts_22 : decode cX11_accepts 22 = .ok (.iconst 1, 1) := by decide +kernel
theorem dX11_accepts_23 : decode cX11_accepts 23 = .ok (.goto 4, 3) := by decide +kernel
theorem dX11_accepts_26 : decode cX11_accepts 26 = .ok (.iconst 0, 1) := by decide +kernel
theorem dX11_accepts_27 : decode cX11_accepts 27 = .ok (.ireturn, 1) := by decide +kernel
theorem dX11_accepts_28 : decode cX11_accepts 28 = .ok (.aload_n 0, 1) := by decide +kernel
theorem dX11_accepts_29 : decode cX11_accepts 29 = .ok (.iload_n 1, 1) := by decide +kernel
theorem dX11_accepts_30 : decode cX11_accepts 30 = .ok (.invokevirtual 175, 3) := by decide +kernel
theorem dX11_accepts_33 : decode cX11_accepts 33 = .ok (.ifCond .eq 17, 3) := by decide +kernel
theorem dX11_accepts_36 : decode cX11_accepts 36 = .ok (.aload_n 0, 1) := by decide +kernel
theorem dX11_accepts_37 : decode cX11_accepts 37 = .ok (.iconst 2, 1) := by decide +kernel
theorem dX11_accepts_38 : decode cX11_accepts 38 = .ok (.invokevirtual 109, 3) := by decide +kernel
theorem dX11_accepts_41 : decode cX11_accepts 41 = .ok (.ifCond .le 7, 3) := by decide +kernel
theorem dX11_accepts_44 : decode cX11_accepts 44 = .ok (.iconst 1, 1) := by decide +kernel
theorem dX11_accepts_45 : decode cX11_accepts 45 = .ok (.goto 4, 3) := by decide +kernel
theorem dX11_accepts_48 : decode cX11_accepts 48 = .ok (.iconst 0, 1) := by decide +kernel
theorem dX11_accepts_49 : decode cX11_accepts 49 = .ok (.ireturn, 1) := by decide +kernel
theorem dX11_accepts_50 : decode cX11_accepts 50 = .ok (.aload_n 0, 1) := by decide +kernel
theorem dX11_accepts_51 : decode cX11_accepts 51 = .ok (.invokevirtual 178, 3) := by decide +kernel
theorem dX11_accepts_54 : decode cX11_accepts 54 = .ok (.aload_n 0, 1) := by decide +kernel
theorem dX11_accepts_55 : decode cX11_accepts 55 = .ok (.iload_n 1, 1) := by decide +kernel
theorem dX11_accepts_56 : decode cX11_accepts 56 = .ok (.aload_n 0, 1) := by decide +kernel
theorem dX11_accepts_57 : decode cX11_accepts 57 = .ok (.getfield 45, 3) := by decide +kernel
theorem dX11_accepts_60 : decode cX11_accepts 60 = .ok (.aload_n 0, 1) := by decide +kernel
theorem dX11_accepts_61 : decode cX11_accepts 61 = .ok (.getfield 51, 3) := by decide +kernel
theorem dX11_accepts_64 : decode cX11_accepts 64 = .ok (.invokevirtual 181, 3) := by decide +kernel
theorem dX11_accepts_67 : decode cX11_accepts 67 = .ok (.ireturn, 1) := by decide +kernel
set_option maxRecDepth 20000 in
theorem ggX11_runCount_X11_next : GoodIn wsX11_runCount wsX11_next := goodIn_ca (goodIn_r _ [10, 5, 14, 15, 16, 17, 18, 19, 20, 21, 22, 23, 24, 25, 26, 27, 28, 29, 30, 31, 32, 33, 34, 35, 36, 37, 38, 39, 40, 41, 42, 43] (by decide +kernel) (by decide +kernel)) (goodIn_sub (fun _ h => List.mem_cons_of_mem _ (List.mem_append_right _ h)) (gsub_f _))
set_option maxRecDepth 20000 in
theorem gX11_runCount_X11_next : GoodIn wsX11_runCount (wsV RX11 133 RX11 yX11_next wsX11_next) := goodIn_app (goodIn_of _ (by decide +kernel)) ggX11_runCount_X11_next
set_option maxRecDepth 20000 in
theorem ggX11_runCount_X11_has : GoodIn wsX11_runCount wsX11_has := goodIn_r _ [13] (by decide +kernel) (by decide +kernel)
set_option maxRecDepth 20000 in
theorem gX11_runCount_X11_has : GoodIn wsX11_runCount (va_wsS RX11 136 yX11_has wsX11_has) := goodIn_app (goodIn_of _ (by decide +kernel)) ggX11_runCount_X11_has
theorem dX11_runCount_0 : decode cX11_runCount 0 = .ok (.iconst 0, 1) := by decide +kernel
theorem dX11_runCount_1 : decode cX11_runCount 1 = .ok (.istore_n 1, 1) := by decide +kernel
theorem dX11_runCount_2 : decode cX11_runCount 2 = .ok (.iload_n 1, 1) := by decide +kernel
theorem dX11_runCount_3 : decode cX11_runCount 3 = .ok (.iconst 5, 1) := by decide +kernel
theorem dX11_runCount_4 : decode cX11_runCount 4 = .ok (.if_icmp .ge 24, 3) := by decide +kernel
theorem dX11_runCount_7 : decode cX11_runCount 7 = .ok (.aload_n 0, 1) := by decide +kernel
theorem dX11_runCount_8 : decode cX11_runCount 8 = .ok (.getfield 72, 3) := by decide +kernel
theorem dX11_runCount_11 : decode cX11_runCount 11 = .ok (.iload_n 1, 1) := by decide +kernel
theorem dX11_runCount_12 : decode cX11_runCount 12 = .ok (.iload_n 1, 1) := by decide +kernel
theorem dX11_runCount_13 : decode cX11_runCount 13 = .ok (.ifCond .ne 7, 3) := by decide +kernel
theorem dX11_runCount_16 : decode cX11_runCount 16 = .ok (.lconst 1, 1) := by decide +kernel
theorem dX11_runCount_17 : decode cX11_runCount 17 = .ok (.goto 4, 3) := by decide +kernel
theorem dX11_runCount_20 : decode cX11_runCount 20 = .ok (.lconst 0, 1) := by decide +kernel
theorem dX11_runCount_21 : decode cX11_runCount 21 = .ok (.lastore, 1) := by decide +kernel
theorem dX11_runCount_22 : decode cX11_runCount 22 = .ok (.iinc 1 1, 3) := by decide +kernel
theorem dX11_runCount_25 : decode cX11_runCount 25 = .ok (.goto (-23), 3) := by decide +kernel
theorem dX11_runCount_28 : decode cX11_runCount 28 = .ok (.iconst 0, 1) := by decide +kernel
theorem dX11_runCount_29 : decode cX11_runCount 29 = .ok (.istore_n 1, 1) := by decide +kernel
theorem dX11_runCount_30 : decode cX11_runCount 30 = .ok (.iload_n 1, 1) := by decide +kernel
theorem dX11_runCount_31 : decode cX11_runCount 31 = .ok (.aload_n 0, 1) := by decide +kernel
theorem dX11_runCount_32 : decode cX11_runCount 32 = .ok (.getfield 51, 3) := by decide +kernel
theorem dX11_runCount_35 : decode cX11_runCount 35 = .ok (.if_icmp .ge 113, 3) := by decide +kernel
theorem dX11_runCount_38 : decode cX11_runCount 38 = .ok (.iconst 0, 1) := by decide +kernel
theorem dX11_runCount_39 : decode cX11_runCount 39 = .ok (.istore_n 2, 1) := by decide +kernel
theorem dX11_runCount_40 : decode cX11_runCount 40 = .ok (.iload_n 2, 1) := by decide +kernel
theorem dX11_runCount_41 : decode cX11_runCount 41 = .ok (.iconst 5, 1) := by decide +kernel
theorem dX11_runCount_42 : decode cX11_runCount 42 = .ok (.if_icmp .ge 16, 3) := by decide +kernel
theorem dX11_runCount_45 : decode cX11_runCount 45 = .ok (.aload_n 0, 1) := by decide +kernel
theorem dX11_runCount_46 : decode cX11_runCount 46 = .ok (.getfield 76, 3) := by decide +kernel
theorem dX11_runCount_49 : decode cX11_runCount 49 = .ok (.iload_n 2, 1) := by decide +kernel
theorem dX11_runCount_50 : decode cX11_runCount 50 = .ok (.lconst 0, 1) := by decide +kernel
theorem dX11_runCount_51 : decode cX11_runCount 51 = .ok (.lastore, 1) := by decide +kernel
theorem dX11_runCount_52 : decode cX11_runCount 52 = .ok (.iinc 2 1, 3) := by decide +kernel
theorem dX11_runCount_55 : decode cX11_runCount 55 = .ok (.goto (-15), 3) := by decide +kernel
theorem dX11_runCount_58 : decode cX11_runCount 58 = .ok (.iconst 0, 1) := by decide +kernel
theorem dX11_runCount_59 : decode cX11_runCount 59 = .ok (.istore_n 2, 1) := by decide +kernel
theorem dX11_runCount_60 : decode cX11_runCount 60 = .ok (.iload_n 2, 1) := by decide +kernel
theorem dX11_runCount_61 : decode cX11_runCount 61 = .ok (.iconst 5, 1) := by decide +kernel
theorem dX11_runCount_62 : decode cX11_runCount 62 = .ok (.if_icmp .ge 55, 3) := by decide +kernel
theorem dX11_runCount_65 : decode cX11_runCount 65 = .ok (.iconst 0, 1) := by decide +kernel
theorem dX11_runCount_66 : decode cX11_runCount 66 = .ok (.istore_n 3, 1) := by decide +kernel
theorem dX11_runCount_67 : decode cX11_runCount 67 = .ok (.iload_n 3, 1) := by decide +kernel
theorem dX11_runCount_68 : decode cX11_runCount 68 = .ok (.iconst 5, 1) := by decide +kernel
theorem dX11_runCount_69 : decode cX11_runCount 69 = .ok (.if_icmp .ge 42, 3) := by decide +kernel
theorem dX11_runCount_72 : decode cX11_runCount 72 = .ok (.aload_n 0, 1) := by decide +kernel
theorem dX11_runCount_73 : decode cX11_runCount 73 = .ok (.iload_n 2, 1) := by decide +kernel
theorem dX11_runCount_74 : decode cX11_runCount 74 = .ok (.aload_n 0, 1) := by decide +kernel
theorem dX11_runCount_75 : decode cX11_runCount 75 = .ok (.getfield 45, 3) := by decide +kernel
theorem dX11_runCount_78 : decode cX11_runCount 78 = .ok (.iload_n 1, 1) := by decide +kernel
theorem dX11_runCount_79 : decode cX11_runCount 79 = .ok (.iaload, 1) := by decide +kernel
theorem dX11_runCount_80 : decode cX11_runCount 80 = .ok (.invokevirtual 133, 3) := by decide +kernel
theorem dX11_runCount_83 : decode cX11_runCount 83 = .ok (.iload_n 3, 1) := by decide +kernel
theorem dX11_runCount_84 : decode cX11_runCount 84 = .ok (.invokestatic 136, 3) := by decide +kernel
theorem dX11_runCount_87 : decode cX11_runCount 87 = .ok (.ifCond .eq 18, 3) := by decide +kernel
theorem dX11_runCount_90 : decode cX11_runCount 90 = .ok (.aload_n 0, 1) := by decide +kernel
theorem dX11_runCount_91 : decode cX11_runCount 91 = .ok (.getfield 76, 3) := by decide +kernel
theorem dX11_runCount_94 : decode cX11_runCount 94 = .ok (.iload_n 3, 1) := by decide +kernel
theorem dX11_runCount_95 : decode cX11_runCount 95 = .ok (.dup2, 1) := by decide +kernel
theorem dX11_runCount_96 : decode cX11_runCount 96 = .ok (.laload, 1) := by decide +kernel
theorem dX11_runCount_97 : decode cX11_runCount 97 = .ok (.aload_n 0, 1) := by decide +kernel
theorem dX11_runCount_98 : decode cX11_runCount 98 = .ok (.getfield 72, 3) := by decide +kernel
theorem dX11_runCount_101 : decode cX11_runCount 101 = .ok (.iload_n 2, 1) := by decide +kernel
theorem dX11_runCount_102 : decode cX11_runCount 102 = .ok (.laload, 1) := by decide +kernel
theorem dX11_runCount_103 : decode cX11_runCount 103 = .ok (.ladd, 1) := by decide +kernel
theorem dX11_runCount_104 : decode cX11_runCount 104 = .ok (.lastore, 1) := by decide +kernel
theorem dX11_runCount_105 : decode cX11_runCount 105 = .ok (.iinc 3 1, 3) := by decide +kernel
theorem dX11_runCount_108 : decode cX11_runCount 108 = .ok (.goto (-41), 3) := by decide +kernel
theorem dX11_runCount_111 : decode cX11_runCount 111 = .ok (.iinc 2 1, 3) := by decide +kernel
theorem dX11_runCount_114 : decode cX11_runCount 114 = .ok (.goto (-54), 3) := by decide +kernel
theorem dX11_runCount_117 : decode cX11_runCount 117 = .ok (.iconst 0, 1) := by decide +kernel
theorem dX11_runCount_118 : decode cX11_runCount 118 = .ok (.istore_n 2, 1) := by decide +kernel
theorem dX11_runCount_119 : decode cX11_runCount 119 = .ok (.iload_n 2, 1) := by decide +kernel
theorem dX11_runCount_120 : decode cX11_runCount 120 = .ok (.iconst 5, 1) := by decide +kernel
theorem dX11_runCount_121 : decode cX11_runCount 121 = .ok (.if_icmp .ge 21, 3) := by decide +kernel
theorem dX11_runCount_124 : decode cX11_runCount 124 = .ok (.aload_n 0, 1) := by decide +kernel
theorem dX11_runCount_125 : decode cX11_runCount 125 = .ok (.getfield 72, 3) := by decide +kernel
theorem dX11_runCount_128 : decode cX11_runCount 128 = .ok (.iload_n 2, 1) := by decide +kernel
theorem dX11_runCount_129 : decode cX11_runCount 129 = .ok (.aload_n 0, 1) := by decide +kernel
theorem dX11_runCount_130 : decode cX11_runCount 130 = .ok (.getfield 76, 3) := by decide +kernel
theorem dX11_runCount_133 : decode cX11_runCount 133 = .ok (.iload_n 2, 1) := by decide +kernel
theorem dX11_runCount_134 : decode cX11_runCount 134 = .ok (.laload, 1) := by decide +kernel
theorem dX11_runCount_135 : decode cX11_runCount 135 = .ok (.lastore, 1) := by decide +kernel
theorem dX11_runCount_136 : decode cX11_runCount 136 = .ok (.iinc 2 1, 3) := by decide +kernel
theorem dX11_runCount_139 : decode cX11_runCount 139 = .ok (.goto (-20), 3) := by decide +kernel
theorem dX11_runCount_142 : decode cX11_runCount 142 = .ok (.iinc 1 1, 3) := by decide +kernel
theorem dX11_runCount_145 : decode cX11_runCount 145 = .ok (.goto (-115), 3) := by decide +kernel
theorem dX11_runCount_148 : decode cX11_runCount 148 = .ok (.lconst 0, 1) := by decide +kernel
theorem dX11_runCount_149 : decode cX11_runCount 149 = .ok (.lstore_n 1, 1) := by decide +kernel
theorem dX11_runCount_150 : decode cX11_runCount 150 = .ok (.iconst 0, 1) := by decide +kernel
theorem dX11_runCount_151 : decode cX11_runCount 151 = .ok (.istore_n 3, 1) := by decide +kernel
theorem dX11_runCount_152 : decode cX11_runCount 152 = .ok (.iload_n 3, 1) := by decide +kernel
theorem dX11_runCount_153 : decode cX11_runCount 153 = .ok (.iconst 5, 1) := by decide +kernel
theorem dX11_runCount_154 : decode cX11_runCount 154 = .ok (.if_icmp .ge 32, 3) := by decide +kernel
theorem dX11_runCount_157 : decode cX11_runCount 157 = .ok (.aload_n 0, 1) := by decide +kernel
theorem dX11_runCount_158 : decode cX11_runCount 158 = .ok (.getfield 13, 3) := by decide +kernel
theorem dX11_runCount_161 : decode cX11_runCount 161 = .ok (.bipush 15, 2) := by decide +kernel
theorem dX11_runCount_163 : decode cX11_runCount 163 = .ok (.iaload, 1) := by decide +kernel
theorem dX11_runCount_164 : decode cX11_runCount 164 = .ok (.iload_n 3, 1) := by decide +kernel
theorem dX11_runCount_165 : decode cX11_runCount 165 = .ok (.invokestatic 136, 3) := by decide +kernel
theorem dX11_runCount_168 : decode cX11_runCount 168 = .ok (.ifCond .eq 12, 3) := by decide +kernel
theorem dX11_runCount_171 : decode cX11_runCount 171 = .ok (.lload_n 1, 1) := by decide +kernel
theorem dX11_runCount_172 : decode cX11_runCount 172 = .ok (.aload_n 0, 1) := by decide +kernel
theorem dX11_runCount_173 : decode cX11_runCount 173 = .ok (.getfield 72, 3) := by decide +kernel
theorem dX11_runCount_176 : decode cX11_runCount 176 = .ok (.iload_n 3, 1) := by decide +kernel
theorem dX11_runCount_177 : decode cX11_runCount 177 = .ok (.laload, 1) := by decide +kernel
theorem dX11_runCount_178 : decode cX11_runCount 178 = .ok (.ladd, 1) := by decide +kernel
theorem dX11_runCount_179 : decode cX11_runCount 179 = .ok (.lstore_n 1, 1) := by decide +kernel
theorem dX11_runCount_180 : decode cX11_runCount 180 = .ok (.iinc 3 1, 3) := by decide +kernel
theorem dX11_runCount_183 : decode cX11_runCount 183 = .ok (.goto (-31), 3) := by decide +kernel
theorem dX11_runCount_186 : decode cX11_runCount 186 = .ok (.lload_n 1, 1) := by decide +kernel
theorem dX11_runCount_187 : decode cX11_runCount 187 = .ok (.lreturn, 1) := by decide +kernel
set_option maxRecDepth 20000 in
theorem ggX11_arranges_X11_after : GoodIn wsX11_arranges wsX11_after := goodIn_ca (goodIn_r _ [11, 12, 13, 10, 14, 15, 16, 17, 18, 2, 22, 23, 24, 25, 26, 27, 28, 29, 30, 31, 32, 33, 34, 35, 36, 37, 38, 39, 40, 41, 42, 43, 44, 45, 46, 47, 48, 49, 50, 51] (by decide +kernel) (by decide +kernel)) (goodIn_sub (fun _ h => List.mem_cons_of_mem _ (List.mem_append_right _ h)) (gsub_f _))
set_option maxRecDepth 20000 in
theorem gX11_arranges_X11_after : GoodIn wsX11_arranges (wsV RX11 147 RX11 yX11_after wsX11_after) := goodIn_app (goodIn_of _ (by decide +kernel)) ggX11_arranges_X11_after
set_option maxRecDepth 20000 in
theorem ggX11_arranges_X11_arranges : GoodIn wsX11_arranges wsX11_arranges := goodIn_ca (goodIn_r _ [0, 1, 2, 3, 4, 5, 6, 7, 8, 9, 10, 11, 12, 13, 14, 15, 16, 17, 18, 19, 20, 21, 22, 23, 24, 25, 26, 27, 28, 29, 30, 31, 32, 33, 34, 35, 36, 37, 38, 39, 40, 41, 42, 43, 44, 45, 46, 47, 48, 49, 50, 51] (by decide +kernel) (by decide +kernel)) (goodIn_sub (fun _ h => List.mem_cons_of_mem _ (List.mem_append_right _ h)) (gsub_f _))
set_option maxRecDepth 20000 in
theorem gX11_arranges_X11_arranges : GoodIn wsX11_arranges (wsV RX11 185 RX11 yX11_arranges wsX11_arranges) := goodIn_app (goodIn_of _ (by decide +kernel)) ggX11_arranges_X11_arranges
theorem dX11_arranges_0 : decode cX11_arranges 0 = .ok (.iload_n 1, 1) := by decide +kernel
theorem dX11_arranges_1 : decode cX11_arranges 1 = .ok (.aload_n 0, 1) := by decide +kernel
theorem dX11_arranges_2 : decode cX11_arranges 2 = .ok (.getfield 51, 3) := by decide +kernel
theorem dX11_arranges_5 : decode cX11_arranges 5 = .ok (.if_icmp .ne 47, 3) := by decide +kernel
theorem dX11_arranges_8 : decode cX11_arranges 8 = .ok (.iload_n 2, 1) := by decide +kernel
theorem dX11_arranges_9 : decode cX11_arranges 9 = .ok (.aload_n 0, 1) := by decide +kernel
theorem dX11_arranges_10 : decode cX11_arranges 10 = .ok (.getfield 13, 3) := by decide +kernel
theorem dX11_arranges_13 : decode cX11_arranges 13 = .ok (.bipush 15, 2) := by decide +kernel
theorem dX11_arranges_15 : decode cX11_arranges 15 = .ok (.iaload, 1) := by decide +kernel
theorem dX11_arranges_16 : decode cX11_arranges 16 = .ok (.iand, 1) := by decide +kernel
theorem dX11_arranges_17 : decode cX11_arranges 17 = .ok (.ifCond .ne 5, 3) := by decide +kernel
theorem dX11_arranges_20 : decode cX11_arranges 20 = .ok (.lconst 0, 1) := by decide +kernel
theorem dX11_arranges_21 : decode cX11_arranges 21 = .ok (.lreturn, 1) := by decide +kernel
theorem dX11_arranges_22 : decode cX11_arranges 22 = .ok (.aload_n 0, 1) := by decide +kernel
theorem dX11_arranges_23 : decode cX11_arranges 23 = .ok (.aload_n 0, 1) := by decide +kernel
theorem dX11_arranges_24 : decode cX11_arranges 24 = .ok (.getfield 82, 3) := by decide +kernel
theorem dX11_arranges_27 : decode cX11_arranges 27 = .ok (.lconst 0, 1) := by decide +kernel
theorem dX11_arranges_28 : decode cX11_arranges 28 = .ok (.lcmp, 1) := by decide +kernel
theorem dX11_arranges_29 : decode cX11_arranges 29 = .ok (.ifCond .ne 7, 3) := by decide +kernel
theorem dX11_arranges_32 : decode cX11_arranges 32 = .ok (.iconst 1, 1) := by decide +kernel
theorem dX11_arranges_33 : decode cX11_arranges 33 = .ok (.goto 4, 3) := by decide +kernel
theorem dX11_arranges_36 : decode cX11_arranges 36 = .ok (.iconst 0, 1) := by decide +kernel
theorem dX11_arranges_37 : decode cX11_arranges 37 = .ok (.putfield 86, 3) := by decide +kernel
theorem dX11_arranges_40 : decode cX11_arranges 40 = .ok (.aload_n 0, 1) := by decide +kernel
theorem dX11_arranges_41 : decode cX11_arranges 41 = .ok (.dup, 1) := by decide +kernel
theorem dX11_arranges_42 : decode cX11_arranges 42 = .ok (.getfield 82, 3) := by decide +kernel
theorem dX11_arranges_45 : decode cX11_arranges 45 = .ok (.lconst 1, 1) := by decide +kernel
theorem dX11_arranges_46 : decode cX11_arranges 46 = .ok (.lsub, 1) := by decide +kernel
theorem dX11_arranges_47 : decode cX11_arranges 47 = .ok (.putfield 82, 3) := by decide +kernel
theorem dX11_arranges_50 : decode cX11_arranges 50 = .ok (.lconst 1, 1) := by decide +kernel
theorem dX11_arranges_51 : decode cX11_arranges 51 = .ok (.lreturn, 1) := by decide +kernel
theorem dX11_arranges_52 : decode cX11_arranges 52 = .ok (.lconst 0, 1) := by decide +kernel
theorem dX11_arranges_53 : decode cX11_arranges 53 = .ok (.lstore_n 3, 1) := by decide +kernel
theorem dX11_arranges_54 : decode cX11_arranges 54 = .ok (.iconst 0, 1) := by decide +kernel
theorem dX11_arranges_55 : decode cX11_arranges 55 = .ok (.istore 5, 2) := by decide +kernel
theorem dX11_arranges_57 : decode cX11_arranges 57 = .ok (.iload 5, 2) := by decide +kernel
theorem dX11_arranges_59 : decode cX11_arranges 59 = .ok (.iconst 3, 1) := by decide +kernel
theorem dX11_arranges_60 : decode cX11_arranges 60 = .ok (.if_icmp .ge 76, 3) := by decide +kernel
theorem dX11_arranges_63 : decode cX11_arranges 63 = .ok (.aload_n 0, 1) := by decide +kernel
theorem dX11_arranges_64 : decode cX11_arranges 64 = .ok (.getfield 86, 3) := by decide +kernel
theorem dX11_arranges_67 : decode cX11_arranges 67 = .ok (.ifCond .ne 69, 3) := by decide +kernel
theorem dX11_arranges_70 : decode cX11_arranges 70 = .ok (.aload_n 0, 1) := by decide +kernel
theorem dX11_arranges_71 : decode cX11_arranges 71 = .ok (.getfield 79, 3) := by decide +kernel
theorem dX11_arranges_74 : decode cX11_arranges 74 = .ok (.iload 5, 2) := by decide +kernel
theorem dX11_arranges_76 : decode cX11_arranges 76 = .ok (.iaload, 1) := by decide +kernel
theorem dX11_arranges_77 : decode cX11_arranges 77 = .ok (.ifCond .ne 6, 3) := by decide +kernel
theorem dX11_arranges_80 : decode cX11_arranges 80 = .ok (.goto 50, 3) := by decide +kernel
theorem dX11_arranges_83 : decode cX11_arranges 83 = .ok (.aload_n 0, 1) := by decide +kernel
theorem dX11_arranges_84 : decode cX11_arranges 84 = .ok (.getfield 79, 3) := by decide +kernel
theorem dX11_arranges_87 : decode cX11_arranges 87 = .ok (.iload 5, 2) := by decide +kernel
theorem dX11_arranges_89 : decode cX11_arranges 89 = .ok (.dup2, 1) := by decide +kernel
theorem dX11_arranges_90 : decode cX11_arranges 90 = .ok (.iaload, 1) := by decide +kernel
theorem dX11_arranges_91 : decode cX11_arranges 91 = .ok (.iconst 1, 1) := by decide +kernel
theorem dX11_arranges_92 : decode cX11_arranges 92 = .ok (.isub, 1) := by decide +kernel
theorem dX11_arranges_93 : decode cX11_arranges 93 = .ok (.iastore, 1) := by decide +kernel
theorem dX11_arranges_94 : decode cX11_arranges 94 = .ok (.aload_n 0, 1) := by decide +kernel
theorem dX11_arranges_95 : decode cX11_arranges 95 = .ok (.getfield 48, 3) := by decide +kernel
theorem dX11_arranges_98 : decode cX11_arranges 98 = .ok (.iload_n 1, 1) := by decide +kernel
theorem dX11_arranges_99 : decode cX11_arranges 99 = .ok (.iload 5, 2) := by decide +kernel
theorem dX11_arranges_101 : decode cX11_arranges 101 = .ok (.iastore, 1) := by decide +kernel
theorem dX11_arranges_102 : decode cX11_arranges 102 = .ok (.lload_n 3, 1) := by decide +kernel
theorem dX11_arranges_103 : decode cX11_arranges 103 = .ok (.aload_n 0, 1) := by decide +kernel
theorem dX11_arranges_104 : decode cX11_arranges 104 = .ok (.iload_n 1, 1) := by decide +kernel
theorem dX11_arranges_105 : decode cX11_arranges 105 = .ok (.iconst 1, 1) := by decide +kernel
theorem dX11_arranges_106 : decode cX11_arranges 106 = .ok (.iadd, 1) := by decide +kernel
theorem dX11_arranges_107 : decode cX11_arranges 107 = .ok (.aload_n 0, 1) := by decide +kernel
theorem dX11_arranges_108 : decode cX11_arranges 108 = .ok (.iload_n 2, 1) := by decide +kernel
theorem dX11_arranges_109 : decode cX11_arranges 109 = .ok (.iload 5, 2) := by decide +kernel
theorem dX11_arranges_111 : decode cX11_arranges 111 = .ok (.invokevirtual 147, 3) := by decide +kernel
theorem dX11_arranges_114 : decode cX11_arranges 114 = .ok (.invokevirtual 185, 3) := by decide +kernel
theorem dX11_arranges_117 : decode cX11_arranges 117 = .ok (.ladd, 1) := by decide +kernel
theorem dX11_arranges_118 : decode cX11_arranges 118 = .ok (.lstore_n 3, 1) := by decide +kernel
theorem dX11_arranges_119 : decode cX11_arranges 119 = .ok (.aload_n 0, 1) := by decide +kernel
theorem dX11_arranges_120 : decode cX11_arranges 120 = .ok (.getfield 79, 3) := by decide +kernel
theorem dX11_arranges_123 : decode cX11_arranges 123 = .ok (.iload 5, 2) := by decide +kernel
theorem dX11_arranges_125 : decode cX11_arranges 125 = .ok (.dup2, 1) := by decide +kernel
theorem dX11_arranges_126 : decode cX11_arranges 126 = .ok (.iaload, 1) := by decide +kernel
theorem dX11_arranges_127 : decode cX11_arranges 127 = .ok (.iconst 1, 1) := by decide +kernel
theorem dX11_arranges_128 : decode cX11_arranges 128 = .ok (.iadd, 1) := by decide +kernel
theorem dX11_arranges_129 : decode cX11_arranges 129 = .ok (.iastore, 1) := by decide +kernel
theorem dX11_arranges_130 : decode cX11_arranges 130 = .ok (.iinc 5 1, 3) := by decide +kernel
theorem dX11_arranges_133 : decode cX11_arranges 133 = .ok (.goto (-76), 3) := by decide +kernel
theorem dX11_arranges_136 : decode cX11_arranges 136 = .ok (.lload_n 3, 1) := by decide +kernel
theorem dX11_arranges_137 : decode cX11_arranges 137 = .ok (.lreturn, 1) := by decide +kernel
set_option maxRecDepth 20000 in
theorem ggX11_arrangesAll_X11_arranges : GoodIn wsX11_arrangesAll wsX11_arranges := goodIn_ca (goodIn_r _ [10, 2, 11, 4, 5, 1, 12, 13, 14, 15, 9, 16, 17, 18, 19, 20, 21, 22, 23, 6, 7, 8, 24, 25, 26, 27, 28, 29, 30, 31, 32, 33, 34, 35, 36, 37, 38, 39, 40, 41, 42, 43, 44, 45, 46, 47, 48, 49, 50, 51, 52, 53] (by decide +kernel) (by decide +kernel)) (goodIn_sub (fun _ h => List.mem_cons_of_mem _ (List.mem_append_right _ h)) (gsub_f _))
set_option maxRecDepth 20000 in
theorem gX11_arrangesAll_X11_arranges : GoodIn wsX11_arrangesAll (wsV RX11 185 RX11 yX11_arranges wsX11_arranges) := goodIn_app (goodIn_of _ (by decide +kernel)) ggX11_arrangesAll_X11_arranges
theorem dX11_arrangesAll_0 : decode cX11_arrangesAll 0 = .ok (.iconst 0, 1) := by decide +kernel
theorem dX11_arrangesAll_1 : decode cX11_arrangesAll 1 = .ok (.istore_n 3, 1) := by decide +kernel
theorem dX11_arrangesAll_2 : decode cX11_arrangesAll 2 = .ok (.iload_n 3, 1) := by decide +kernel
theorem dX11_arrangesAll_3 : decode cX11_arrangesAll 3 = .ok (.iconst 3, 1) := by decide +kernel
theorem dX11_arrangesAll_4 : decode cX11_arrangesAll 4 = .ok (.if_icmp .ge 16, 3) := by decide +kernel
theorem dX11_arrangesAll_7 : decode cX11_arrangesAll 7 = .ok (.aload_n 0, 1) := by decide +kernel
theorem dX11_arrangesAll_8 : decode cX11_arrangesAll 8 = .ok (.getfield 79, 3) := by decide +kernel
theorem dX11_arrangesAll_11 : decode cX11_arrangesAll 11 = .ok (.iload_n 3, 1) := by decide +kernel
theorem dX11_arrangesAll_12 : decode cX11_arrangesAll 12 = .ok (.iconst 0, 1) := by decide +kernel
theorem dX11_arrangesAll_13 : decode cX11_arrangesAll 13 = .ok (.iastore, 1) := by decide +kernel
theorem dX11_arrangesAll_14 : decode cX11_arrangesAll 14 = .ok (.iinc 3 1, 3) := by decide +kernel
theorem dX11_arrangesAll_17 : decode cX11_arrangesAll 17 = .ok (.goto (-15), 3) := by decide +kernel
theorem dX11_arrangesAll_20 : decode cX11_arrangesAll 20 = .ok (.iconst 0, 1) := by decide +kernel
theorem dX11_arrangesAll_21 : decode cX11_arrangesAll 21 = .ok (.istore_n 3, 1) := by decide +kernel
theorem dX11_arrangesAll_22 : decode cX11_arrangesAll 22 = .ok (.iload_n 3, 1) := by decide +kernel
theorem dX11_arrangesAll_23 : decode cX11_arrangesAll 23 = .ok (.aload_n 0, 1) := by decide +kernel
theorem dX11_arrangesAll_24 : decode cX11_arrangesAll 24 = .ok (.getfield 51, 3) := by decide +kernel
theorem dX11_arrangesAll_27 : decode cX11_arrangesAll 27 = .ok (.if_icmp .ge 24, 3) := by decide +kernel
theorem dX11_arrangesAll_30 : decode cX11_arrangesAll 30 = .ok (.aload_n 0, 1) := by decide +kernel
theorem dX11_arrangesAll_31 : decode cX11_arrangesAll 31 = .ok (.getfield 79, 3) := by decide +kernel
theorem dX11_arrangesAll_34 : decode cX11_arrangesAll 34 = .ok (.aload_n 0, 1) := by decide +kernel
theorem dX11_arrangesAll_35 : decode cX11_arrangesAll 35 = .ok (.getfield 45, 3) := by decide +kernel
theorem dX11_arrangesAll_38 : decode cX11_arrangesAll 38 = .ok (.iload_n 3, 1) := by decide +kernel
theorem dX11_arrangesAll_39 : decode cX11_arrangesAll 39 = .ok (.iaload, 1) := by decide +kernel
theorem dX11_arrangesAll_40 : decode cX11_arrangesAll 40 = .ok (.dup2, 1) := by decide +kernel
theorem dX11_arrangesAll_41 : decode cX11_arrangesAll 41 = .ok (.iaload, 1) := by decide +kernel
theorem dX11_arrangesAll_42 : decode cX11_arrangesAll 42 = .ok (.iconst 1, 1) := by decide +kernel
theorem dX11_arrangesAll_43 : decode cX11_arrangesAll 43 = .ok (.iadd, 1) := by decide +kernel
theorem dX11_arrangesAll_44 : decode cX11_arrangesAll 44 = .ok (.iastore, 1) := by decide +kernel
theorem dX11_arrangesAll_45 : decode cX11_arrangesAll 45 = .ok (.iinc 3 1, 3) := by decide +kernel
theorem dX11_arrangesAll_48 : decode cX11_arrangesAll 48 = .ok (.goto (-26), 3) := by decide +kernel
theorem dX11_arrangesAll_51 : decode cX11_arrangesAll 51 = .ok (.aload_n 0, 1) := by decide +kernel
theorem dX11_arrangesAll_52 : decode cX11_arrangesAll 52 = .ok (.lload_n 1, 1) := by decide +kernel
theorem dX11_arrangesAll_53 : decode cX11_arrangesAll 53 = .ok (.putfield 82, 3) := by decide +kernel
theorem dX11_arrangesAll_56 : decode cX11_arrangesAll 56 = .ok (.aload_n 0, 1) := by decide +kernel
theorem dX11_arrangesAll_57 : decode cX11_arrangesAll 57 = .ok (.iconst 0, 1) := by decide +kernel
theorem dX11_arrangesAll_58 : decode cX11_arrangesAll 58 = .ok (.putfield 86, 3) := by decide +kernel
theorem dX11_arrangesAll_61 : decode cX11_arrangesAll 61 = .ok (.aload_n 0, 1) := by decide +kernel
theorem dX11_arrangesAll_62 : decode cX11_arrangesAll 62 = .ok (.iconst 0, 1) := by decide +kernel
theorem dX11_arrangesAll_63 : decode cX11_arrangesAll 63 = .ok (.iconst 1, 1) := by decide +kernel
theorem dX11_arrangesAll_64 : decode cX11_arrangesAll 64 = .ok (.invokevirtual 185, 3) := by decide +kernel
theorem dX11_arrangesAll_67 : decode cX11_arrangesAll 67 = .ok (.lreturn, 1) := by decide +kernel
set_option maxRecDepth 20000 in
theorem ggX11_acceptedArrangements_X11_arrangesAll : GoodIn wsX11_acceptedArrangements wsX11_arrangesAll := goodIn_ca (goodIn_r _ [6, 7, 8, 9, 10, 11, 12, 13, 14, 5, 15, 16, 17, 18, 19, 20, 21, 22, 23, 24, 25, 26, 27, 28, 29, 30, 31, 32, 33, 34, 35, 36, 37, 38, 39, 40, 41, 42, 43, 44, 45, 46, 47, 48, 49, 50, 51, 52, 53, 54, 55, 56, 57, 58] (by decide +kernel) (by decide +kernel)) (goodIn_sub (fun _ h => List.mem_cons_of_mem _ (List.mem_append_right _ h)) (gsub_f _))
set_option maxRecDepth 20000 in
theorem gX11_acceptedArrangements_X11_arrangesAll : GoodIn wsX11_acceptedArrangements (wsV RX11 191 RX11 yX11_arrangesAll wsX11_arrangesAll) := goodIn_app (goodIn_r _ [2, 3, 4, 5] (by decide +kernel) (by decide +kernel)) ggX11_acceptedArrangements_X11_arrangesAll
theorem dX11_acceptedArrangements_0 : decode cX11_acceptedArrangements 0 = .ok (.aload_n 0, 1) := by decide +kernel
theorem dX11_acceptedArrangements_1 : decode cX11_acceptedArrangements 1 = .ok (.ldc2_w 189, 3) := by decide +kernel
theorem dX11_acceptedArrangements_4 : decode cX11_acceptedArrangements 4 = .ok (.invokevirtual 191, 3) := by decide +kernel
theorem dX11_acceptedArrangements_7 : decode cX11_acceptedArrangements 7 = .ok (.lreturn, 1) := by decide +kernel
set_option maxRecDepth 20000 in
theorem ggX11_takeArrangement_X11_fails : GoodIn wsX11_takeArrangement wsX11_fails := goodIn_r _ [10, 1, 33, 34, 35, 36, 37, 38, 39, 40, 41, 42, 43, 44, 45, 46, 47, 48, 49, 50, 51, 52, 53, 54, 55, 56, 57, 58, 59, 60, 61, 62] (by decide +kernel) (by decide +kernel)
set_option maxRecDepth 20000 in
theorem gX11_takeArrangement_X11_fails : GoodIn wsX11_takeArrangement (wsV RX11 109 RX11 yX11_fails wsX11_fails) := goodIn_app (goodIn_r _ [6, 7, 8, 9] (by decide +kernel) (by decide +kernel)) ggX11_takeArrangement_X11_fails
set_option maxRecDepth 20000 in
theorem ggX11_takeArrangement_X11_arrangesAll : GoodIn wsX11_takeArrangement wsX11_arrangesAll := goodIn_ca (goodIn_r _ [14, 15, 3, 4, 16, 2, 17, 18, 19, 9, 20, 21, 5, 22, 23, 24, 25, 26, 27, 28, 29, 30, 31, 32, 33, 34, 35, 36, 37, 38, 39, 40, 41, 42, 43, 44, 45, 46, 47, 48, 49, 50, 51, 52, 53, 54, 55, 56, 57, 58, 59, 60, 61, 62] (by decide +kernel) (by decide +kernel)) (goodIn_sub (fun _ h => List.mem_cons_of_mem _ (List.mem_append_right _ h)) (gsub_f _))
set_option maxRecDepth 20000 in
theorem gX11_takeArrangement_X11_arrangesAll : GoodIn wsX11_takeArrangement (wsV RX11 191 RX11 yX11_arrangesAll wsX11_arrangesAll) := goodIn_app (goodIn_r _ [11, 12, 13, 9] (by decide +kernel) (by decide +kernel)) ggX11_takeArrangement_X11_arrangesAll
theorem dX11_takeArrangement_0 : decode cX11_takeArrangement 0 = .ok (.aload_n 0, 1) := by decide +kernel
theorem dX11_takeArrangement_1 : decode cX11_takeArrangement 1 = .ok (.iconst 0, 1) := by decide +kernel
theorem dX11_takeArrangement_2 : decode cX11_takeArrangement 2 = .ok (.putfield 1, 3) := by decide +kernel
theorem dX11_takeArrangement_5 : decode cX11_takeArrangement 5 = .ok (.iload_n 1, 1) := by decide +kernel
theorem dX11_takeArrangement_6 : decode cX11_takeArrangement 6 = .ok (.ifCond .ge 9, 3) := by decide +kernel
theorem dX11_takeArrangement_9 : decode cX11_takeArrangement 9 = .ok (.aload_n 0, 1) := by decide +kernel
theorem dX11_takeArrangement_10 : decode cX11_takeArrangement 10 = .ok (.iconst 1, 1) := by decide +kernel
theorem dX11_takeArrangement_11 : decode cX11_takeArrangement 11 = .ok (.invokevirtual 109, 3) := by decide +kernel
theorem dX11_takeArrangement_14 : decode cX11_takeArrangement 14 = .ok (.ireturn, 1) := by decide +kernel
theorem dX11_takeArrangement_15 : decode cX11_takeArrangement 15 = .ok (.aload_n 0, 1) := by decide +kernel
theorem dX11_takeArrangement_16 : decode cX11_takeArrangement 16 = .ok (.iload_n 1, 1) := by decide +kernel
theorem dX11_takeArrangement_17 : decode cX11_takeArrangement 17 = .ok (.i2l, 1) := by decide +kernel
theorem dX11_takeArrangement_18 : decode cX11_takeArrangement 18 = .ok (.invokevirtual 191, 3) := by decide +kernel
theorem dX11_takeArrangement_21 : decode cX11_takeArrangement 21 = .ok (.lstore_n 2, 1) := by decide +kernel
theorem dX11_takeArrangement_22 : decode cX11_takeArrangement 22 = .ok (.aload_n 0, 1) := by decide +kernel
theorem dX11_takeArrangement_23 : decode cX11_takeArrangement 23 = .ok (.getfield 86, 3) := by decide +kernel
theorem dX11_takeArrangement_26 : decode cX11_takeArrangement 26 = .ok (.ifCond .ne 9, 3) := by decide +kernel
theorem dX11_takeArrangement_29 : decode cX11_takeArrangement 29 = .ok (.aload_n 0, 1) := by decide +kernel
theorem dX11_takeArrangement_30 : decode cX11_takeArrangement 30 = .ok (.iconst 2, 1) := by decide +kernel
theorem dX11_takeArrangement_31 : decode cX11_takeArrangement 31 = .ok (.invokevirtual 109, 3) := by decide +kernel
theorem dX11_takeArrangement_34 : decode cX11_takeArrangement 34 = .ok (.ireturn, 1) := by decide +kernel
theorem dX11_takeArrangement_35 : decode cX11_takeArrangement 35 = .ok (.iconst 0, 1) := by decide +kernel
theorem dX11_takeArrangement_36 : decode cX11_takeArrangement 36 = .ok (.istore 4, 2) := by decide +kernel
theorem dX11_takeArrangement_38 : decode cX11_takeArrangement 38 = .ok (.iload 4, 2) := by decide +kernel
theorem dX11_takeArrangement_40 : decode cX11_takeArrangement 40 = .ok (.aload_n 0, 1) := by decide +kernel
theorem dX11_takeArrangement_41 : decode cX11_takeArrangement 41 = .ok (.getfield 51, 3) := by decide +kernel
theorem dX11_takeArrangement_44 : decode cX11_takeArrangement 44 = .ok (.if_icmp .ge 23, 3) := by decide +kernel
theorem dX11_takeArrangement_47 : decode cX11_takeArrangement 47 = .ok (.aload_n 0, 1) := by decide +kernel
theorem dX11_takeArrangement_48 : decode cX11_takeArrangement 48 = .ok (.getfield 45, 3) := by decide +kernel
theorem dX11_takeArrangement_51 : decode cX11_takeArrangement 51 = .ok (.iload 4, 2) := by decide +kernel
theorem dX11_takeArrangement_53 : decode cX11_takeArrangement 53 = .ok (.aload_n 0, 1) := by decide +kernel
theorem dX11_takeArrangement_54 : decode cX11_takeArrangement 54 = .ok (.getfield 48, 3) := by decide +kernel
theorem dX11_takeArrangement_57 : decode cX11_takeArrangement 57 = .ok (.iload 4, 2) := by decide +kernel
theorem dX11_takeArrangement_59 : decode cX11_takeArrangement 59 = .ok (.iaload, 1) := by decide +kernel
theorem dX11_takeArrangement_60 : decode cX11_takeArrangement 60 = .ok (.iastore, 1) := by decide +kernel
theorem dX11_takeArrangement_61 : decode cX11_takeArrangement 61 = .ok (.iinc 4 1, 3) := by decide +kernel
theorem dX11_takeArrangement_64 : decode cX11_takeArrangement 64 = .ok (.goto (-26), 3) := by decide +kernel
theorem dX11_takeArrangement_67 : decode cX11_takeArrangement 67 = .ok (.aload_n 0, 1) := by decide +kernel
theorem dX11_takeArrangement_68 : decode cX11_takeArrangement 68 = .ok (.getfield 51, 3) := by decide +kernel
theorem dX11_takeArrangement_71 : decode cX11_takeArrangement 71 = .ok (.ireturn, 1) := by decide +kernel
set_option maxRecDepth 20000 in
theorem ggX11_oneWayJumps_X11_isDeterministic : GoodIn wsX11_oneWayJumps wsX11_isDeterministic := goodIn_ca (goodIn_r _ [9, 10, 11, 12, 8, 13, 32, 33, 34, 35, 36, 37, 38, 39, 40, 41, 42, 43, 44, 45, 46, 47, 48, 49, 50, 51, 52, 53, 54, 55, 56, 57, 58, 59, 60, 61] (by decide +kernel) (by decide +kernel)) (goodIn_sub (fun _ h => List.mem_cons_of_mem _ (List.mem_append_left _ (List.mem_append_right _ h))) (gsub_f _))
set_option maxRecDepth 20000 in
theorem gX11_oneWayJumps_X11_isDeterministic : GoodIn wsX11_oneWayJumps (wsV RX11 171 RX11 yX11_isDeterministic wsX11_isDeterministic) := goodIn_app (goodIn_r _ [5, 6, 7, 8] (by decide +kernel) (by decide +kernel)) ggX11_oneWayJumps_X11_isDeterministic
set_option maxRecDepth 20000 in
theorem ggX11_oneWayJumps_X11_fails : GoodIn wsX11_oneWayJumps wsX11_fails := goodIn_r _ [17, 1, 32, 33, 34, 35, 36, 37, 38, 39, 40, 41, 42, 43, 44, 45, 46, 47, 48, 49, 50, 51, 52, 53, 54, 55, 56, 57, 58, 59, 60, 61] (by decide +kernel) (by decide +kernel)
set_option maxRecDepth 20000 in
theorem gX11_oneWayJumps_X11_fails : GoodIn wsX11_oneWayJumps (wsV RX11 109 RX11 yX11_fails wsX11_fails) := goodIn_app (goodIn_r _ [14, 15, 16, 8] (by decide +kernel) (by decide +kernel)) ggX11_oneWayJumps_X11_fails
set_option maxRecDepth 20000 in
theorem ggX11_oneWayJumps_X11_goesOneWay : GoodIn wsX11_oneWayJumps wsX11_goesOneWay := goodIn_ca (goodIn_ca (goodIn_r _ [21, 22, 4, 23, 24, 25, 26, 27, 8, 28, 10, 29, 30, 31, 32, 33, 34, 35, 36, 37, 38, 39, 40, 41, 42, 43, 44, 45, 46, 47, 48, 49, 50, 51, 52, 53, 54, 55, 56, 57, 58, 59, 60, 61] (by decide +kernel) (by decide +kernel)) (goodIn_sub (fun _ h => List.mem_cons_of_mem _ (List.mem_append_left _ (List.mem_append_right _ h))) (gsub_f _))) (goodIn_sub (fun _ h => List.mem_cons_of_mem _ (List.mem_append_right _ h)) (gsub_f _))
set_option maxRecDepth 20000 in
theorem gX11_oneWayJumps_X11_goesOneWay : GoodIn wsX11_oneWayJumps (wsV RX11 167 RX11 yX11_goesOneWay wsX11_goesOneWay) := goodIn_app (goodIn_r _ [18, 19, 20, 8] (by decide +kernel) (by decide +kernel)) ggX11_oneWayJumps_X11_goesOneWay
theorem dX11_oneWayJumps_0 : decode cX11_oneWayJumps 0 = .ok (.aload_n 0, 1) := by decide +kernel
theorem dX11_oneWayJumps_1 : decode cX11_oneWayJumps 1 = .ok (.iconst 0, 1) := by decide +kernel
theorem dX11_oneWayJumps_2 : decode cX11_oneWayJumps 2 = .ok (.putfield 1, 3) := by decide +kernel
theorem dX11_oneWayJumps_5 : decode cX11_oneWayJumps 5 = .ok (.aload_n 0, 1) := by decide +kernel
theorem dX11_oneWayJumps_6 : decode cX11_oneWayJumps 6 = .ok (.invokevirtual 171, 3) := by decide +kernel
theorem dX11_oneWayJumps_9 : decode cX11_oneWayJumps 9 = .ok (.ifCond .ne 9, 3) := by decide +kernel
theorem dX11_oneWayJumps_12 : decode cX11_oneWayJumps 12 = .ok (.aload_n 0, 1) := by decide +kernel
theorem dX11_oneWayJumps_13 : decode cX11_oneWayJumps 13 = .ok (.iconst 1, 1) := by decide +kernel
theorem dX11_oneWayJumps_14 : decode cX11_oneWayJumps 14 = .ok (.invokevirtual 109, 3) := by decide +kernel
theorem dX11_oneWayJumps_17 : decode cX11_oneWayJumps 17 = .ok (.ireturn, 1) := by decide +kernel
theorem dX11_oneWayJumps_18 : decode cX11_oneWayJumps 18 = .ok (.aload_n 0, 1) := by decide +kernel
theorem dX11_oneWayJumps_19 : decode cX11_oneWayJumps 19 = .ok (.aload_n 0, 1) := by decide +kernel
theorem dX11_oneWayJumps_20 : decode cX11_oneWayJumps 20 = .ok (.getfield 45, 3) := by decide +kernel
theorem dX11_oneWayJumps_23 : decode cX11_oneWayJumps 23 = .ok (.aload_n 0, 1) := by decide +kernel
theorem dX11_oneWayJumps_24 : decode cX11_oneWayJumps 24 = .ok (.getfield 51, 3) := by decide +kernel
theorem dX11_oneWayJumps_27 : decode cX11_oneWayJumps 27 = .ok (.invokevirtual 167, 3) := by decide +kernel
theorem dX11_oneWayJumps_30 : decode cX11_oneWayJumps 30 = .ok (.aload_n 0, 1) := by decide +kernel
theorem dX11_oneWayJumps_31 : decode cX11_oneWayJumps 31 = .ok (.getfield 63, 3) := by decide +kernel
theorem dX11_oneWayJumps_34 : decode cX11_oneWayJumps 34 = .ok (.ireturn, 1) := by decide +kernel
set_option maxRecDepth 20000 in
theorem ggX11_oneWayRest_X11_isDeterministic : GoodIn wsX11_oneWayRest wsX11_isDeterministic := goodIn_ca (goodIn_r _ [9, 10, 11, 12, 8, 13, 32, 33, 34, 35, 36, 37, 38, 39, 40, 41, 42, 43, 44, 45, 46, 47, 48, 49, 50, 51, 52, 53, 54, 55, 56, 57, 58, 59, 60, 61] (by decide +kernel) (by decide +kernel)) (goodIn_sub (fun _ h => List.mem_cons_of_mem _ (List.mem_append_left _ (List.mem_append_right _ h))) (gsub_f _))
set_option maxRecDepth 20000 in
theorem gX11_oneWayRest_X11_isDeterministic : GoodIn wsX11_oneWayRest (wsV RX11 171 RX11 yX11_isDeterministic wsX11_isDeterministic) := goodIn_app (goodIn_r _ [5, 6, 7, 8] (by decide +kernel) (by decide +kernel)) ggX11_oneWayRest_X11_isDeterministic
set_option maxRecDepth 20000 in
theorem ggX11_oneWayRest_X11_fails : GoodIn wsX11_oneWayRest wsX11_fails := goodIn_r _ [17, 1, 32, 33, 34, 35, 36, 37, 38, 39, 40, 41, 42, 43, 44, 45, 46, 47, 48, 49, 50, 51, 52, 53, 54, 55, 56, 57, 58, 59, 60, 61] (by decide +kernel) (by decide +kernel)
set_option maxRecDepth 20000 in
theorem gX11_oneWayRest_X11_fails : GoodIn wsX11_oneWayRest (wsV RX11 109 RX11 yX11_fails wsX11_fails) := goodIn_app (goodIn_r _ [14, 15, 16, 8] (by decide +kernel) (by decide +kernel)) ggX11_oneWayRest_X11_fails
set_option maxRecDepth 20000 in
theorem ggX11_oneWayRest_X11_goesOneWay : GoodIn wsX11_oneWayRest wsX11_goesOneWay := goodIn_ca (goodIn_ca (goodIn_r _ [21, 4, 22, 23, 24, 25, 26, 27, 8, 28, 10, 29, 30, 31, 32, 33, 34, 35, 36, 37, 38, 39, 40, 41, 42, 43, 44, 45, 46, 47, 48, 49, 50, 51, 52, 53, 54, 55, 56, 57, 58, 59, 60, 61] (by decide +kernel) (by decide +kernel)) (goodIn_sub (fun _ h => List.mem_cons_of_mem _ (List.mem_append_left _ (List.mem_append_right _ h))) (gsub_f _))) (goodIn_sub (fun _ h => List.mem_cons_of_mem _ (List.mem_append_right _ h)) (gsub_f _))
set_option maxRecDepth 20000 in
theorem gX11_oneWayRest_X11_goesOneWay : GoodIn wsX11_oneWayRest (wsV RX11 167 RX11 yX11_goesOneWay wsX11_goesOneWay) := goodIn_app (goodIn_r _ [18, 19, 20, 8] (by decide +kernel) (by decide +kernel)) ggX11_oneWayRest_X11_goesOneWay
theorem dX11_oneWayRest_0 : decode cX11_oneWayRest 0 = .ok (.aload_n 0, 1) := by decide +kernel
theorem dX11_oneWayRest_1 : decode cX11_oneWayRest 1 = .ok (.iconst 0, 1) := by decide +kernel
theorem dX11_oneWayRest_2 : decode cX11_oneWayRest 2 = .ok (.putfield 1, 3) := by decide +kernel
theorem dX11_oneWayRest_5 : decode cX11_oneWayRest 5 = .ok (.aload_n 0, 1) := by decide +kernel
theorem dX11_oneWayRest_6 : decode cX11_oneWayRest 6 = .ok (.invokevirtual 171, 3) := by decide +kernel
theorem dX11_oneWayRest_9 : decode cX11_oneWayRest 9 = .ok (.ifCond .ne 9, 3) := by decide +kernel
theorem dX11_oneWayRest_12 : decode cX11_oneWayRest 12 = .ok (.aload_n 0, 1) := by decide +kernel
theorem dX11_oneWayRest_13 : decode cX11_oneWayRest 13 = .ok (.iconst 1, 1) := by decide +kernel
theorem dX11_oneWayRest_14 : decode cX11_oneWayRest 14 = .ok (.invokevirtual 109, 3) := by decide +kernel
theorem dX11_oneWayRest_17 : decode cX11_oneWayRest 17 = .ok (.ireturn, 1) := by decide +kernel
theorem dX11_oneWayRest_18 : decode cX11_oneWayRest 18 = .ok (.aload_n 0, 1) := by decide +kernel
theorem dX11_oneWayRest_19 : decode cX11_oneWayRest 19 = .ok (.aload_n 0, 1) := by decide +kernel
theorem dX11_oneWayRest_20 : decode cX11_oneWayRest 20 = .ok (.getfield 45, 3) := by decide +kernel
theorem dX11_oneWayRest_23 : decode cX11_oneWayRest 23 = .ok (.aload_n 0, 1) := by decide +kernel
theorem dX11_oneWayRest_24 : decode cX11_oneWayRest 24 = .ok (.getfield 51, 3) := by decide +kernel
theorem dX11_oneWayRest_27 : decode cX11_oneWayRest 27 = .ok (.invokevirtual 167, 3) := by decide +kernel
theorem dX11_oneWayRest_30 : decode cX11_oneWayRest 30 = .ok (.aload_n 0, 1) := by decide +kernel
theorem dX11_oneWayRest_31 : decode cX11_oneWayRest 31 = .ok (.getfield 66, 3) := by decide +kernel
theorem dX11_oneWayRest_34 : decode cX11_oneWayRest 34 = .ok (.ireturn, 1) := by decide +kernel
theorem dX11_costAt_0 : decode cX11_costAt 0 = .ok (.iload_n 1, 1) := by decide +kernel
theorem dX11_costAt_1 : decode cX11_costAt 1 = .ok (.bipush 8, 2) := by decide +kernel
theorem dX11_costAt_3 : decode cX11_costAt 3 = .ok (.imul, 1) := by decide +kernel
theorem dX11_costAt_4 : decode cX11_costAt 4 = .ok (.iload_n 2, 1) := by decide +kernel
theorem dX11_costAt_5 : decode cX11_costAt 5 = .ok (.iadd, 1) := by decide +kernel
theorem dX11_costAt_6 : decode cX11_costAt 6 = .ok (.iconst 5, 1) := by decide +kernel
theorem dX11_costAt_7 : decode cX11_costAt 7 = .ok (.imul, 1) := by decide +kernel
theorem dX11_costAt_8 : decode cX11_costAt 8 = .ok (.iload_n 3, 1) := by decide +kernel
theorem dX11_costAt_9 : decode cX11_costAt 9 = .ok (.iadd, 1) := by decide +kernel
theorem dX11_costAt_10 : decode cX11_costAt 10 = .ok (.ireturn, 1) := by decide +kernel
set_option maxRecDepth 20000 in
theorem ggX11_layCosts_X11_has : GoodIn wsX11_layCosts wsX11_has := goodIn_r _ [16] (by decide +kernel) (by decide +kernel)
set_option maxRecDepth 20000 in
theorem gX11_layCosts_X11_has : GoodIn wsX11_layCosts (va_wsS RX11 136 yX11_has wsX11_has) := goodIn_app (goodIn_r _ [13, 14, 15] (by decide +kernel) (by decide +kernel)) ggX11_layCosts_X11_has
set_option maxRecDepth 20000 in
theorem ggX11_layCosts_X11_next : GoodIn wsX11_layCosts wsX11_next := goodIn_ca (goodIn_r _ [20, 2, 29, 30, 31, 32, 33, 34, 35, 36, 37, 38, 39, 40, 41, 42, 43, 44, 45, 46, 47, 48, 49, 50, 51, 52, 53, 54, 55, 56, 57, 58] (by decide +kernel) (by decide +kernel)) (goodIn_sub (fun _ h => List.mem_cons_of_mem _ (List.mem_append_right _ h)) (gsub_f _))
set_option maxRecDepth 20000 in
theorem gX11_layCosts_X11_next : GoodIn wsX11_layCosts (wsV RX11 133 RX11 yX11_next wsX11_next) := goodIn_app (goodIn_r _ [17, 18, 19, 15] (by decide +kernel) (by decide +kernel)) ggX11_layCosts_X11_next
set_option maxRecDepth 20000 in
theorem ggX11_layCosts_X11_leastOf : GoodIn wsX11_layCosts wsX11_leastOf := goodIn_ca (goodIn_r _ [24, 3, 12, 9, 10, 6, 11, 13, 14, 15, 16, 25, 26, 27, 28, 29, 30, 31, 32, 33, 34, 35, 36, 37, 38, 39, 40, 41, 42, 43, 44, 45, 46, 47, 48, 49, 50, 51, 52, 53, 54, 55, 56, 57, 58] (by decide +kernel) (by decide +kernel)) (goodIn_sub (fun _ h => List.mem_cons_of_mem _ (List.mem_append_right _ h)) (gsub_f _))
set_option maxRecDepth 20000 in
theorem gX11_layCosts_X11_leastOf : GoodIn wsX11_layCosts (wsV RX11 201 RX11 yX11_leastOf wsX11_leastOf) := goodIn_app (goodIn_r _ [21, 22, 23, 15] (by decide +kernel) (by decide +kernel)) ggX11_layCosts_X11_leastOf
set_option maxRecDepth 20000 in
theorem ggX11_layCosts_X11_costAt : GoodIn wsX11_layCosts wsX11_costAt := goodIn_r _ [28] (by decide +kernel) (by decide +kernel)
set_option maxRecDepth 20000 in
theorem gX11_layCosts_X11_costAt : GoodIn wsX11_layCosts (wsV RX11 207 RX11 yX11_costAt wsX11_costAt) := goodIn_app (goodIn_r _ [25, 26, 27, 15] (by decide +kernel) (by decide +kernel)) ggX11_layCosts_X11_costAt
theorem dX11_layCosts_0 : decode cX11_layCosts 0 = .ok (.iconst 1, 1) := by decide +kernel
theorem dX11_layCosts_1 : decode cX11_layCosts 1 = .ok (.aload_n 0, 1) := by decide +kernel
theorem dX11_layCosts_2 : decode cX11_layCosts 2 = .ok (.getfield 51, 3) := by decide +kernel
theorem dX11_layCosts_5 : decode cX11_layCosts 5 = .ok (.ishl, 1) := by decide +kernel
theorem dX11_layCosts_6 : decode cX11_layCosts 6 = .ok (.iconst 1, 1) := by decide +kernel
theorem dX11_layCosts_7 : decode cX11_layCosts 7 = .ok (.isub, 1) := by decide +kernel
theorem dX11_layCosts_8 : decode cX11_layCosts 8 = .ok (.istore_n 1, 1) := by decide +kernel
theorem dX11_layCosts_9 : decode cX11_layCosts 9 = .ok (.iload_n 1, 1) := by decide +kernel
theorem dX11_layCosts_10 : decode cX11_layCosts 10 = .ok (.istore_n 2, 1) := by decide +kernel
theorem dX11_layCosts_11 : decode cX11_layCosts 11 = .ok (.iload_n 2, 1) := by decide +kernel
theorem dX11_layCosts_12 : decode cX11_layCosts 12 = .ok (.ifCond .le 150, 3) := by decide +kernel
theorem dX11_layCosts_15 : decode cX11_layCosts 15 = .ok (.iconst 0, 1) := by decide +kernel
theorem dX11_layCosts_16 : decode cX11_layCosts 16 = .ok (.istore_n 3, 1) := by decide +kernel
theorem dX11_layCosts_17 : decode cX11_layCosts 17 = .ok (.iload_n 3, 1) := by decide +kernel
theorem dX11_layCosts_18 : decode cX11_layCosts 18 = .ok (.aload_n 0, 1) := by decide +kernel
theorem dX11_layCosts_19 : decode cX11_layCosts 19 = .ok (.getfield 51, 3) := by decide +kernel
theorem dX11_layCosts_22 : decode cX11_layCosts 22 = .ok (.if_icmp .ge 134, 3) := by decide +kernel
theorem dX11_layCosts_25 : decode cX11_layCosts 25 = .ok (.iconst 0, 1) := by decide +kernel
theorem dX11_layCosts_26 : decode cX11_layCosts 26 = .ok (.istore 4, 2) := by decide +kernel
theorem dX11_layCosts_28 : decode cX11_layCosts 28 = .ok (.iload 4, 2) := by decide +kernel
theorem dX11_layCosts_30 : decode cX11_layCosts 30 = .ok (.iconst 5, 1) := by decide +kernel
theorem dX11_layCosts_31 : decode cX11_layCosts 31 = .ok (.if_icmp .ge 119, 3) := by decide +kernel
theorem dX11_layCosts_34 : decode cX11_layCosts 34 = .ok (.iload_n 2, 1) := by decide +kernel
theorem dX11_layCosts_35 : decode cX11_layCosts 35 = .ok (.iload_n 1, 1) := by decide +kernel
theorem dX11_layCosts_36 : decode cX11_layCosts 36 = .ok (.if_icmp .ne 22, 3) := by decide +kernel
theorem dX11_layCosts_39 : decode cX11_layCosts 39 = .ok (.aload_n 0, 1) := by decide +kernel
theorem dX11_layCosts_40 : decode cX11_layCosts 40 = .ok (.getfield 13, 3) := by decide +kernel
theorem dX11_layCosts_43 : decode cX11_layCosts 43 = .ok (.bipush 15, 2) := by decide +kernel
theorem dX11_layCosts_45 : decode cX11_layCosts 45 = .ok (.iaload, 1) := by decide +kernel
theorem dX11_layCosts_46 : decode cX11_layCosts 46 = .ok (.iload 4, 2) := by decide +kernel
theorem dX11_layCosts_48 : decode cX11_layCosts 48 = .ok (.invokestatic 136, 3) := by decide +kernel
theorem dX11_layCosts_51 : decode cX11_layCosts 51 = .ok (.ifCond .eq 7, 3) := by decide +kernel
theorem dX11_layCosts_54 : decode cX11_layCosts 54 = .ok (.iconst 0, 1) := by decide +kernel
theorem dX11_layCosts_55 : decode cX11_layCosts 55 = .ok (.goto 5, 3) := by decide +kernel
theorem dX11_layCosts_58 : decode cX11_layCosts 58 = .ok (.ldc 195, 2) := by decide +kernel
theorem dX11_layCosts_60 : decode cX11_layCosts 60 = .ok (.istore 5, 2) := by decide +kernel
theorem dX11_layCosts_62 : decode cX11_layCosts 62 = .ok (.iconst 0, 1) := by decide +kernel
theorem dX11_layCosts_63 : decode cX11_layCosts 63 = .ok (.istore 6, 2) := by decide +kernel
theorem dX11_layCosts_65 : decode cX11_layCosts 65 = .ok (.iload 6, 2) := by decide +kernel
theorem dX11_layCosts_67 : decode cX11_layCosts 67 = .ok (.aload_n 0, 1) := by decide +kernel
theorem dX11_layCosts_68 : decode cX11_layCosts 68 = .ok (.getfield 51, 3) := by decide +kernel
theorem dX11_layCosts_71 : decode cX11_layCosts 71 = .ok (.if_icmp .ge 58, 3) := by decide +kernel
theorem dX11_layCosts_74 : decode cX11_layCosts 74 = .ok (.iload_n 2, 1) := by decide +kernel
theorem dX11_layCosts_75 : decode cX11_layCosts 75 = .ok (.iload 6, 2) := by decide +kernel
theorem dX11_layCosts_77 : decode cX11_layCosts 77 = .ok (.invokestatic 136, 3) := by decide +kernel
theorem dX11_layCosts_80 : decode cX11_layCosts 80 = .ok (.ifCond .ne 43, 3) := by decide +kernel
theorem dX11_layCosts_83 : decode cX11_layCosts 83 = .ok (.iload 5, 2) := by decide +kernel
theorem dX11_layCosts_85 : decode cX11_layCosts 85 = .ok (.iload 6, 2) := by decide +kernel
theorem dX11_layCosts_87 : decode cX11_layCosts 87 = .ok (.iload_n 3, 1) := by decide +kernel
theorem dX11_layCosts_88 : decode cX11_layCosts 88 = .ok (.isub, 1) := by decide +kernel
theorem dX11_layCosts_89 : decode cX11_layCosts 89 = .ok (.invokestatic 196, 3) := by decide +kernel
theorem dX11_layCosts_92 : decode cX11_layCosts 92 = .ok (.aload_n 0, 1) := by decide +kernel
theorem dX11_layCosts_93 : decode cX11_layCosts 93 = .ok (.iload_n 2, 1) := by decide +kernel
theorem dX11_layCosts_94 : decode cX11_layCosts 94 = .ok (.iconst 1, 1) := by decide +kernel
theorem dX11_layCosts_95 : decode cX11_layCosts 95 = .ok (.iload 6, 2) := by decide +kernel
theorem dX11_layCosts_97 : decode cX11_layCosts 97 = .ok (.ishl, 1) := by decide +kernel
theorem dX11_layCosts_98 : decode cX11_layCosts 98 = .ok (.ior, 1) := by decide +kernel
theorem dX11_layCosts_99 : decode cX11_layCosts 99 = .ok (.iload 6, 2) := by decide +kernel
theorem dX11_layCosts_101 : decode cX11_layCosts 101 = .ok (.aload_n 0, 1) := by decide +kernel
theorem dX11_layCosts_102 : decode cX11_layCosts 102 = .ok (.iload 4, 2) := by decide +kernel
theorem dX11_layCosts_104 : decode cX11_layCosts 104 = .ok (.aload_n 0, 1) := by decide +kernel
theorem dX11_layCosts_105 : decode cX11_layCosts 105 = .ok (.getfield 45, 3) := by decide +kernel
theorem dX11_layCosts_108 : decode cX11_layCosts 108 = .ok (.iload 6, 2) := by decide +kernel
theorem dX11_layCosts_110 : decode cX11_layCosts 110 = .ok (.iaload, 1) := by decide +kernel
theorem dX11_layCosts_111 : decode cX11_layCosts 111 = .ok (.invokevirtual 133, 3) := by decide +kernel
theorem dX11_layCosts_114 : decode cX11_layCosts 114 = .ok (.invokevirtual 201, 3) := by decide +kernel
theorem dX11_layCosts_117 : decode cX11_layCosts 117 = .ok (.iadd, 1) := by decide +kernel
theorem dX11_layCosts_118 : decode cX11_layCosts 118 = .ok (.invokestatic 204, 3) := by decide +kernel
theorem dX11_layCosts_121 : decode cX11_layCosts 121 = .ok (.istore 5, 2) := by decide +kernel
theorem dX11_layCosts_123 : decode cX11_layCosts 123 = .ok (.iinc 6 1, 3) := by decide +kernel
theorem dX11_layCosts_126 : decode cX11_layCosts 126 = .ok (.goto (-61), 3) := by decide +kernel
theorem dX11_layCosts_129 : decode cX11_layCosts 129 = .ok (.aload_n 0, 1) := by decide +kernel
theorem dX11_layCosts_130 : decode cX11_layCosts 130 = .ok (.getfield 89, 3) := by decide +kernel
theorem dX11_layCosts_133 : decode cX11_layCosts 133 = .ok (.aload_n 0, 1) := by decide +kernel
theorem dX11_layCosts_134 : decode cX11_layCosts 134 = .ok (.iload_n 2, 1) := by decide +kernel
theorem dX11_layCosts_135 : decode cX11_layCosts 135 = .ok (.iload_n 3, 1) := by decide +kernel
theorem dX11_layCosts_136 : decode cX11_layCosts 136 = .ok (.iload 4, 2) := by decide +kernel
theorem dX11_layCosts_138 : decode cX11_layCosts 138 = .ok (.invokevirtual 207, 3) := by decide +kernel
theorem dX11_layCosts_141 : decode cX11_layCosts 141 = .ok (.iload 5, 2) := by decide +kernel
theorem dX11_layCosts_143 : decode cX11_layCosts 143 = .ok (.iastore, 1) := by decide +kernel
theorem dX11_layCosts_144 : decode cX11_layCosts 144 = .ok (.iinc 4 1, 3) := by decide +kernel
theorem dX11_layCosts_147 : decode cX11_layCosts 147 = .ok (.goto (-119), 3) := by decide +kernel
theorem dX11_layCosts_150 : decode cX11_layCosts 150 = .ok (.iinc 3 1, 3) := by decide +kernel
theorem dX11_layCosts_153 : decode cX11_layCosts 153 = .ok (.goto (-136), 3) := by decide +kernel
theorem dX11_layCosts_156 : decode cX11_layCosts 156 = .ok (.iinc 2 (-1), 3) := by decide +kernel
theorem dX11_layCosts_159 : decode cX11_layCosts 159 = .ok (.goto (-148), 3) := by decide +kernel
theorem dX11_layCosts_162 : decode cX11_layCosts 162 = .ok (.return_, 1) := by decide +kernel
set_option maxRecDepth 20000 in
theorem ggX11_leastOf_X11_has : GoodIn wsX11_leastOf wsX11_has := goodIn_r _ [10] (by decide +kernel) (by decide +kernel)
set_option maxRecDepth 20000 in
theorem gX11_leastOf_X11_has : GoodIn wsX11_leastOf (va_wsS RX11 136 yX11_has wsX11_has) := goodIn_app (goodIn_of _ (by decide +kernel)) ggX11_leastOf_X11_has
set_option maxRecDepth 20000 in
theorem ggX11_leastOf_X11_costAt : GoodIn wsX11_leastOf wsX11_costAt := goodIn_r _ [14] (by decide +kernel) (by decide +kernel)
set_option maxRecDepth 20000 in
theorem gX11_leastOf_X11_costAt : GoodIn wsX11_leastOf (wsV RX11 207 RX11 yX11_costAt wsX11_costAt) := goodIn_app (goodIn_of _ (by decide +kernel)) ggX11_leastOf_X11_costAt
theorem dX11_leastOf_0 : decode cX11_leastOf 0 = .ok (.ldc 195, 2) := by decide +kernel
theorem dX11_leastOf_2 : decode cX11_leastOf 2 = .ok (.istore 4, 2) := by decide +kernel
theorem dX11_leastOf_4 : decode cX11_leastOf 4 = .ok (.iconst 0, 1) := by decide +kernel
theorem dX11_leastOf_5 : decode cX11_leastOf 5 = .ok (.istore 5, 2) := by decide +kernel
theorem dX11_leastOf_7 : decode cX11_leastOf 7 = .ok (.iload 5, 2) := by decide +kernel
theorem dX11_leastOf_9 : decode cX11_leastOf 9 = .ok (.iconst 5, 1) := by decide +kernel
theorem dX11_leastOf_10 : decode cX11_leastOf 10 = .ok (.if_icmp .ge 38, 3) := by decide +kernel
theorem dX11_leastOf_13 : decode cX11_leastOf 13 = .ok (.iload_n 3, 1) := by decide +kernel
theorem dX11_leastOf_14 : decode cX11_leastOf 14 = .ok (.iload 5, 2) := by decide +kernel
theorem dX11_leastOf_16 : decode cX11_leastOf 16 = .ok (.invokestatic 136, 3) := by decide +kernel
theorem dX11_leastOf_19 : decode cX11_leastOf 19 = .ok (.ifCond .eq 23, 3) := by decide +kernel
theorem dX11_leastOf_22 : decode cX11_leastOf 22 = .ok (.iload 4, 2) := by decide +kernel
theorem dX11_leastOf_24 : decode cX11_leastOf 24 = .ok (.aload_n 0, 1) := by decide +kernel
theorem dX11_leastOf_25 : decode cX11_leastOf 25 = .ok (.getfield 89, 3) := by decide +kernel
theorem dX11_leastOf_28 : decode cX11_leastOf 28 = .ok (.aload_n 0, 1) := by decide +kernel
theorem dX11_leastOf_29 : decode cX11_leastOf 29 = .ok (.iload_n 1, 1) := by decide +kernel
theorem dX11_leastOf_30 : decode cX11_leastOf 30 = .ok (.iload_n 2, 1) := by decide +kernel
theorem dX11_leastOf_31 : decode cX11_leastOf 31 = .ok (.iload 5, 2) := by decide +kernel
theorem dX11_leastOf_33 : decode cX11_leastOf 33 = .ok (.invokevirtual 207, 3) := by decide +kernel
theorem dX11_leastOf_36 : decode cX11_leastOf 36 = .ok (.iaload, 1) := by decide +kernel
theorem dX11_leastOf_37 : decode cX11_leastOf 37 = .ok (.invokestatic 204, 3) := by decide +kernel
theorem dX11_leastOf_40 : decode cX11_leastOf 40 = .ok (.istore 4, 2) := by decide +kernel
theorem dX11_leastOf_42 : decode cX11_leastOf 42 = .ok (.iinc 5 1, 3) := by decide +kernel
theorem dX11_leastOf_45 : decode cX11_leastOf 45 = .ok (.goto (-38), 3) := by decide +kernel
theorem dX11_leastOf_48 : decode cX11_leastOf 48 = .ok (.iload 4, 2) := by decide +kernel
theorem dX11_leastOf_50 : decode cX11_leastOf 50 = .ok (.ireturn, 1) := by decide +kernel
set_option maxRecDepth 20000 in
theorem ggX11_leastCost_X11_has : GoodIn wsX11_leastCost wsX11_has := goodIn_r _ [12] (by decide +kernel) (by decide +kernel)
set_option maxRecDepth 20000 in
theorem gX11_leastCost_X11_has : GoodIn wsX11_leastCost (va_wsS RX11 136 yX11_has wsX11_has) := goodIn_app (goodIn_r _ [9, 10, 11] (by decide +kernel) (by decide +kernel)) ggX11_leastCost_X11_has
set_option maxRecDepth 20000 in
theorem ggX11_leastCost_X11_layCosts : GoodIn wsX11_leastCost wsX11_layCosts := goodIn_ca (goodIn_r _ [16, 1, 2, 3, 17, 18, 7, 19, 4, 5, 6, 8, 20, 9, 10, 11, 12, 21, 22, 23, 24, 25, 26, 27, 28, 29, 30, 31, 32, 33, 34, 35, 36, 37, 38, 39, 40, 41, 42, 43, 44, 45, 46, 47, 48, 49, 50, 51, 52, 53, 54, 55, 56, 57, 58, 59, 60, 61, 62] (by decide +kernel) (by decide +kernel)) (goodIn_sub (fun _ h => List.mem_cons_of_mem _ (List.mem_append_right _ h)) (gsub_f _))
set_option maxRecDepth 20000 in
theorem gX11_leastCost_X11_layCosts : GoodIn wsX11_leastCost (wsV RX11 210 RX11 yX11_layCosts wsX11_layCosts) := goodIn_app (goodIn_r _ [13, 14, 15, 11] (by decide +kernel) (by decide +kernel)) ggX11_leastCost_X11_layCosts
set_option maxRecDepth 20000 in
theorem ggX11_leastCost_X11_next : GoodIn wsX11_leastCost wsX11_next := goodIn_ca (goodIn_r _ [24, 2, 33, 34, 35, 36, 37, 38, 39, 40, 41, 42, 43, 44, 45, 46, 47, 48, 49, 50, 51, 52, 53, 54, 55, 56, 57, 58, 59, 60, 61, 62] (by decide +kernel) (by decide +kernel)) (goodIn_sub (fun _ h => List.mem_cons_of_mem _ (List.mem_append_right _ h)) (gsub_f _))
set_option maxRecDepth 20000 in
theorem gX11_leastCost_X11_next : GoodIn wsX11_leastCost (wsV RX11 133 RX11 yX11_next wsX11_next) := goodIn_app (goodIn_r _ [21, 22, 23, 11] (by decide +kernel) (by decide +kernel)) ggX11_leastCost_X11_next
set_option maxRecDepth 20000 in
theorem ggX11_leastCost_X11_leastOf : GoodIn wsX11_leastCost wsX11_leastOf := goodIn_ca (goodIn_r _ [28, 3, 20, 5, 6, 7, 8, 9, 10, 11, 12, 29, 30, 31, 32, 33, 34, 35, 36, 37, 38, 39, 40, 41, 42, 43, 44, 45, 46, 47, 48, 49, 50, 51, 52, 53, 54, 55, 56, 57, 58, 59, 60, 61, 62] (by decide +kernel) (by decide +kernel)) (goodIn_sub (fun _ h => List.mem_cons_of_mem _ (List.mem_append_right _ h)) (gsub_f _))
set_option maxRecDepth 20000 in
theorem gX11_leastCost_X11_leastOf : GoodIn wsX11_leastCost (wsV RX11 201 RX11 yX11_leastOf wsX11_leastOf) := goodIn_app (goodIn_r _ [25, 26, 27, 11] (by decide +kernel) (by decide +kernel)) ggX11_leastCost_X11_leastOf
theorem dX11_leastCost_0 : decode cX11_leastCost 0 = .ok (.aload_n 0, 1) := by decide +kernel
theorem dX11_leastCost_1 : decode cX11_leastCost 1 = .ok (.getfield 51, 3) := by decide +kernel
theorem dX11_leastCost_4 : decode cX11_leastCost 4 = .ok (.ifCond .ne 24, 3) := by decide +kernel
theorem dX11_leastCost_7 : decode cX11_leastCost 7 = .ok (.aload_n 0, 1) := by decide +kernel
theorem dX11_leastCost_8 : decode cX11_leastCost 8 = .ok (.getfield 13, 3) := by decide +kernel
theorem dX11_leastCost_11 : decode cX11_leastCost 11 = .ok (.bipush 15, 2) := by decide +kernel
theorem dX11_leastCost_13 : decode cX11_leastCost 13 = .ok (.iaload, 1) := by decide +kernel
theorem dX11_leastCost_14 : decode cX11_leastCost 14 = .ok (.iconst 0, 1) := by decide +kernel
theorem dX11_leastCost_15 : decode cX11_leastCost 15 = .ok (.invokestatic 136, 3) := by decide +kernel
theorem dX11_leastCost_18 : decode cX11_leastCost 18 = .ok (.ifCond .eq 7, 3) := by decide +kernel
theorem dX11_leastCost_21 : decode cX11_leastCost 21 = .ok (.iconst 0, 1) := by decide +kernel
theorem dX11_leastCost_22 : decode cX11_leastCost 22 = .ok (.goto 5, 3) := by decide +kernel
theorem dX11_leastCost_25 : decode cX11_leastCost 25 = .ok (.ldc 195, 2) := by decide +kernel
theorem dX11_leastCost_27 : decode cX11_leastCost 27 = .ok (.ireturn, 1) := by decide +kernel
theorem dX11_leastCost_28 : decode cX11_leastCost 28 = .ok (.aload_n 0, 1) := by decide +kernel
theorem dX11_leastCost_29 : decode cX11_leastCost 29 = .ok (.invokevirtual 210, 3) := by decide +kernel
theorem dX11_leastCost_32 : decode cX11_leastCost 32 = .ok (.ldc 195, 2) := by decide +kernel
theorem dX11_leastCost_34 : decode cX11_leastCost 34 = .ok (.istore_n 1, 1) := by decide +kernel
theorem dX11_leastCost_35 : decode cX11_leastCost 35 = .ok (.iconst 0, 1) := by decide +kernel
theorem dX11_leastCost_36 : decode cX11_leastCost 36 = .ok (.istore_n 2, 1) := by decide +kernel
theorem dX11_leastCost_37 : decode cX11_leastCost 37 = .ok (.iload_n 2, 1) := by decide +kernel
theorem dX11_leastCost_38 : decode cX11_leastCost 38 = .ok (.aload_n 0, 1) := by decide +kernel
theorem dX11_leastCost_39 : decode cX11_leastCost 39 = .ok (.getfield 51, 3) := by decide +kernel
theorem dX11_leastCost_42 : decode cX11_leastCost 42 = .ok (.if_icmp .ge 35, 3) := by decide +kernel
theorem dX11_leastCost_45 : decode cX11_leastCost 45 = .ok (.iload_n 1, 1) := by decide +kernel
theorem dX11_leastCost_46 : decode cX11_leastCost 46 = .ok (.iload_n 2, 1) := by decide +kernel
theorem dX11_leastCost_47 : decode cX11_leastCost 47 = .ok (.aload_n 0, 1) := by decide +kernel
theorem dX11_leastCost_48 : decode cX11_leastCost 48 = .ok (.iconst 1, 1) := by decide +kernel
theorem dX11_leastCost_49 : decode cX11_leastCost 49 = .ok (.iload_n 2, 1) := by decide +kernel
theorem dX11_leastCost_50 : decode cX11_leastCost 50 = .ok (.ishl, 1) := by decide +kernel
theorem dX11_leastCost_51 : decode cX11_leastCost 51 = .ok (.iload_n 2, 1) := by decide +kernel
theorem dX11_leastCost_52 : decode cX11_leastCost 52 = .ok (.aload_n 0, 1) := by decide +kernel
theorem dX11_leastCost_53 : decode cX11_leastCost 53 = .ok (.iconst 0, 1) := by decide +kernel
theorem dX11_leastCost_54 : decode cX11_leastCost 54 = .ok (.aload_n 0, 1) := by decide +kernel
theorem dX11_leastCost_55 : decode cX11_leastCost 55 = .ok (.getfield 45, 3) := by decide +kernel
theorem dX11_leastCost_58 : decode cX11_leastCost 58 = .ok (.iload_n 2, 1) := by decide +kernel
theorem dX11_leastCost_59 : decode cX11_leastCost 59 = .ok (.iaload, 1) := by decide +kernel
theorem dX11_leastCost_60 : decode cX11_leastCost 60 = .ok (.invokevirtual 133, 3) := by decide +kernel
theorem dX11_leastCost_63 : decode cX11_leastCost 63 = .ok (.invokevirtual 201, 3) := by decide +kernel
theorem dX11_leastCost_66 : decode cX11_leastCost 66 = .ok (.iadd, 1) := by decide +kernel
theorem dX11_leastCost_67 : decode cX11_leastCost 67 = .ok (.invokestatic 204, 3) := by decide +kernel
theorem dX11_leastCost_70 : decode cX11_leastCost 70 = .ok (.istore_n 1, 1) := by decide +kernel
theorem dX11_leastCost_71 : decode cX11_leastCost 71 = .ok (.iinc 2 1, 3) := by decide +kernel
theorem dX11_leastCost_74 : decode cX11_leastCost 74 = .ok (.goto (-37), 3) := by decide +kernel
theorem dX11_leastCost_77 : decode cX11_leastCost 77 = .ok (.iload_n 1, 1) := by decide +kernel
theorem dX11_leastCost_78 : decode cX11_leastCost 78 = .ok (.ireturn, 1) := by decide +kernel
set_option maxRecDepth 20000 in
theorem ggX11_orderCost_X11_leastCost : GoodIn wsX11_orderCost wsX11_leastCost := goodIn_ca (goodIn_r _ [7, 8, 9, 2, 10, 11, 12, 13, 14, 15, 16, 6, 17, 18, 19, 20, 21, 22, 23, 24, 25, 26, 27, 28, 29, 30, 31, 32, 33, 34, 35, 36, 37, 42, 43, 44, 45, 46, 47, 48, 49, 50, 51, 52, 53, 54, 55, 56, 57, 58, 59, 60, 61, 62, 63, 64, 65, 66, 67, 68, 69, 70, 71] (by decide +kernel) (by decide +kernel)) (goodIn_sub (fun _ h => List.mem_cons_of_mem _ (List.mem_append_right _ h)) (gsub_f _))
set_option maxRecDepth 20000 in
theorem gX11_orderCost_X11_leastCost : GoodIn wsX11_orderCost (wsV RX11 213 RX11 yX11_leastCost wsX11_leastCost) := goodIn_app (goodIn_r _ [3, 4, 5, 6] (by decide +kernel) (by decide +kernel)) ggX11_orderCost_X11_leastCost
set_option maxRecDepth 20000 in
theorem ggX11_orderCost_X11_fails : GoodIn wsX11_orderCost wsX11_fails := goodIn_r _ [41, 1, 42, 43, 44, 45, 46, 47, 48, 49, 50, 51, 52, 53, 54, 55, 56, 57, 58, 59, 60, 61, 62, 63, 64, 65, 66, 67, 68, 69, 70, 71] (by decide +kernel) (by decide +kernel)
set_option maxRecDepth 20000 in
theorem gX11_orderCost_X11_fails : GoodIn wsX11_orderCost (wsV RX11 109 RX11 yX11_fails wsX11_fails) := goodIn_app (goodIn_r _ [38, 39, 40, 6] (by decide +kernel) (by decide +kernel)) ggX11_orderCost_X11_fails
theorem dX11_orderCost_0 : decode cX11_orderCost 0 = .ok (.aload_n 0, 1) := by decide +kernel
theorem dX11_orderCost_1 : decode cX11_orderCost 1 = .ok (.iconst 0, 1) := by decide +kernel
theorem dX11_orderCost_2 : decode cX11_orderCost 2 = .ok (.putfield 1, 3) := by decide +kernel
theorem dX11_orderCost_5 : decode cX11_orderCost 5 = .ok (.aload_n 0, 1) := by decide +kernel
theorem dX11_orderCost_6 : decode cX11_orderCost 6 = .ok (.invokevirtual 213, 3) := by decide +kernel
theorem dX11_orderCost_9 : decode cX11_orderCost 9 = .ok (.istore_n 1, 1) := by decide +kernel
theorem dX11_orderCost_10 : decode cX11_orderCost 10 = .ok (.iload_n 1, 1) := by decide +kernel
theorem dX11_orderCost_11 : decode cX11_orderCost 11 = .ok (.ldc 195, 2) := by decide +kernel
theorem dX11_orderCost_13 : decode cX11_orderCost 13 = .ok (.if_icmp .lt 11, 3) := by decide +kernel
theorem dX11_orderCost_16 : decode cX11_orderCost 16 = .ok (.aload_n 0, 1) := by decide +kernel
theorem dX11_orderCost_17 : decode cX11_orderCost 17 = .ok (.iconst 1, 1) := by decide +kernel
theorem dX11_orderCost_18 : decode cX11_orderCost 18 = .ok (.invokevirtual 109, 3) := by decide +kernel
theorem dX11_orderCost_21 : decode cX11_orderCost 21 = .ok (.goto 4, 3) := by decide +kernel
theorem dX11_orderCost_24 : decode cX11_orderCost 24 = .ok (.iload_n 1, 1) := by decide +kernel
theorem dX11_orderCost_25 : decode cX11_orderCost 25 = .ok (.ireturn, 1) := by decide +kernel
set_option maxRecDepth 20000 in
theorem ggX11_orderPosition_X11_in : GoodIn wsX11_orderPosition wsX11_in := goodIn_r _ [13] (by decide +kernel) (by decide +kernel)
set_option maxRecDepth 20000 in
theorem gX11_orderPosition_X11_in : GoodIn wsX11_orderPosition (va_wsS RX11 105 yX11_in wsX11_in) := goodIn_app (goodIn_r _ [10, 11, 12] (by decide +kernel) (by decide +kernel)) ggX11_orderPosition_X11_in
set_option maxRecDepth 20000 in
theorem ggX11_orderPosition_X11_fails : GoodIn wsX11_orderPosition wsX11_fails := goodIn_r _ [17, 1, 50, 51, 52, 53, 54, 55, 56, 57, 58, 59, 60, 61, 62, 63, 64, 65, 66, 67, 68, 69, 70, 71, 72, 73, 74, 75, 76, 77, 78, 79] (by decide +kernel) (by decide +kernel)
set_option maxRecDepth 20000 in
theorem gX11_orderPosition_X11_fails : GoodIn wsX11_orderPosition (wsV RX11 109 RX11 yX11_fails wsX11_fails) := goodIn_app (goodIn_r _ [14, 15, 16, 12] (by decide +kernel) (by decide +kernel)) ggX11_orderPosition_X11_fails
set_option maxRecDepth 20000 in
theorem ggX11_orderPosition_X11_leastCost : GoodIn wsX11_orderPosition wsX11_leastCost := goodIn_ca (goodIn_r _ [21, 2, 22, 3, 8, 23, 24, 6, 25, 26, 27, 12, 28, 29, 30, 31, 32, 4, 5, 7, 33, 34, 35, 36, 37, 38, 39, 40, 41, 42, 43, 44, 45, 50, 51, 52, 53, 54, 55, 56, 57, 58, 59, 60, 61, 62, 63, 64, 65, 66, 67, 68, 69, 70, 71, 72, 73, 74, 75, 76, 77, 78, 79] (by decide +kernel) (by decide +kernel)) (goodIn_sub (fun _ h => List.mem_cons_of_mem _ (List.mem_append_right _ h)) (gsub_f _))
set_option maxRecDepth 20000 in
theorem gX11_orderPosition_X11_leastCost : GoodIn wsX11_orderPosition (wsV RX11 213 RX11 yX11_leastCost wsX11_leastCost) := goodIn_app (goodIn_r _ [18, 19, 20, 12] (by decide +kernel) (by decide +kernel)) ggX11_orderPosition_X11_leastCost
set_option maxRecDepth 20000 in
theorem ggX11_orderPosition_X11_has : GoodIn wsX11_orderPosition wsX11_has := goodIn_r _ [28] (by decide +kernel) (by decide +kernel)
set_option maxRecDepth 20000 in
theorem gX11_orderPosition_X11_has : GoodIn wsX11_orderPosition (va_wsS RX11 136 yX11_has wsX11_has) := goodIn_app (goodIn_r _ [26, 27, 12] (by decide +kernel) (by decide +kernel)) ggX11_orderPosition_X11_has
set_option maxRecDepth 20000 in
theorem ggX11_orderPosition_X11_after : GoodIn wsX11_orderPosition wsX11_after := goodIn_ca (goodIn_r _ [49, 26, 27, 12, 28, 34, 35, 36, 37, 22, 50, 51, 52, 53, 54, 55, 56, 57, 58, 59, 60, 61, 62, 63, 64, 65, 66, 67, 68, 69, 70, 71, 72, 73, 74, 75, 76, 77, 78, 79] (by decide +kernel) (by decide +kernel)) (goodIn_sub (fun _ h => List.mem_cons_of_mem _ (List.mem_append_right _ h)) (gsub_f _))
set_option maxRecDepth 20000 in
theorem gX11_orderPosition_X11_after : GoodIn wsX11_orderPosition (wsV RX11 147 RX11 yX11_after wsX11_after) := goodIn_app (goodIn_r _ [46, 47, 48, 12] (by decide +kernel) (by decide +kernel)) ggX11_orderPosition_X11_after
set_option maxRecDepth 20000 in
theorem ggX11_orderPosition_X11_leastOf : GoodIn wsX11_orderPosition wsX11_leastOf := goodIn_ca (goodIn_r _ [41, 3, 33, 23, 24, 6, 25, 26, 27, 12, 28, 42, 43, 44, 45, 50, 51, 52, 53, 54, 55, 56, 57, 58, 59, 60, 61, 62, 63, 64, 65, 66, 67, 68, 69, 70, 71, 72, 73, 74, 75, 76, 77, 78, 79] (by decide +kernel) (by decide +kernel)) (goodIn_sub (fun _ h => List.mem_cons_of_mem _ (List.mem_append_right _ h)) (gsub_f _))
set_option maxRecDepth 20000 in
theorem gX11_orderPosition_X11_leastOf : GoodIn wsX11_orderPosition (wsV RX11 201 RX11 yX11_leastOf wsX11_leastOf) := goodIn_app (goodIn_r _ [38, 39, 40, 12] (by decide +kernel) (by decide +kernel)) ggX11_orderPosition_X11_leastOf
theorem dX11_orderPosition_0 : decode cX11_orderPosition 0 = .ok (.aload_n 0, 1) := by decide +kernel
theorem dX11_orderPosition_1 : decode cX11_orderPosition 1 = .ok (.iconst 0, 1) := by decide +kernel
theorem dX11_orderPosition_2 : decode cX11_orderPosition 2 = .ok (.putfield 1, 3) := by decide +kernel
theorem dX11_orderPosition_5 : decode cX11_orderPosition 5 = .ok (.iload_n 1, 1) := by decide +kernel
theorem dX11_orderPosition_6 : decode cX11_orderPosition 6 = .ok (.iconst 0, 1) := by decide +kernel
theorem dX11_orderPosition_7 : decode cX11_orderPosition 7 = .ok (.aload_n 0, 1) := by decide +kernel
theorem dX11_orderPosition_8 : decode cX11_orderPosition 8 = .ok (.getfield 51, 3) := by decide +kernel
theorem dX11_orderPosition_11 : decode cX11_orderPosition 11 = .ok (.iconst 1, 1) := by decide +kernel
theorem dX11_orderPosition_12 : decode cX11_orderPosition 12 = .ok (.isub, 1) := by decide +kernel
theorem dX11_orderPosition_13 : decode cX11_orderPosition 13 = .ok (.invokestatic 105, 3) := by decide +kernel
theorem dX11_orderPosition_16 : decode cX11_orderPosition 16 = .ok (.ifCond .ne 9, 3) := by decide +kernel
theorem dX11_orderPosition_19 : decode cX11_orderPosition 19 = .ok (.aload_n 0, 1) := by decide +kernel
theorem dX11_orderPosition_20 : decode cX11_orderPosition 20 = .ok (.iconst 1, 1) := by decide +kernel
theorem dX11_orderPosition_21 : decode cX11_orderPosition 21 = .ok (.invokevirtual 109, 3) := by decide +kernel
theorem dX11_orderPosition_24 : decode cX11_orderPosition 24 = .ok (.ireturn, 1) := by decide +kernel
theorem dX11_orderPosition_25 : decode cX11_orderPosition 25 = .ok (.aload_n 0, 1) := by decide +kernel
theorem dX11_orderPosition_26 : decode cX11_orderPosition 26 = .ok (.invokevirtual 213, 3) := by decide +kernel
theorem dX11_orderPosition_29 : decode cX11_orderPosition 29 = .ok (.istore_n 2, 1) := by decide +kernel
theorem dX11_orderPosition_30 : decode cX11_orderPosition 30 = .ok (.iload_n 2, 1) := by decide +kernel
theorem dX11_orderPosition_31 : decode cX11_orderPosition 31 = .ok (.ldc 195, 2) := by decide +kernel
theorem dX11_orderPosition_33 : decode cX11_orderPosition 33 = .ok (.if_icmp .lt 9, 3) := by decide +kernel
theorem dX11_orderPosition_36 : decode cX11_orderPosition 36 = .ok (.aload_n 0, 1) := by decide +kernel
theorem dX11_orderPosition_37 : decode cX11_orderPosition 37 = .ok (.iconst 2, 1) := by decide +kernel
theorem dX11_orderPosition_38 : decode cX11_orderPosition 38 = .ok (.invokevirtual 109, 3) := by decide +kernel
theorem dX11_orderPosition_41 : decode cX11_orderPosition 41 = .ok (.ireturn, 1) := by decide +kernel
theorem dX11_orderPosition_42 : decode cX11_orderPosition 42 = .ok (.iconst 0, 1) := by decide +kernel
theorem dX11_orderPosition_43 : decode cX11_orderPosition 43 = .ok (.istore_n 3, 1) := by decide +kernel
theorem dX11_orderPosition_44 : decode cX11_orderPosition 44 = .ok (.iconst 0, 1) := by decide +kernel
theorem dX11_orderPosition_45 : decode cX11_orderPosition 45 = .ok (.istore 4, 2) := by decide +kernel
theorem dX11_orderPosition_47 : decode cX11_orderPosition 47 = .ok (.iconst 1, 1) := by decide +kernel
theorem dX11_orderPosition_48 : decode cX11_orderPosition 48 = .ok (.istore 5, 2) := by decide +kernel
theorem dX11_orderPosition_50 : decode cX11_orderPosition 50 = .ok (.iconst 0, 1) := by decide +kernel
theorem dX11_orderPosition_51 : decode cX11_orderPosition 51 = .ok (.istore 6, 2) := by decide +kernel
theorem dX11_orderPosition_53 : decode cX11_orderPosition 53 = .ok (.iload 6, 2) := by decide +kernel
theorem dX11_orderPosition_55 : decode cX11_orderPosition 55 = .ok (.iload_n 1, 1) := by decide +kernel
theorem dX11_orderPosition_56 : decode cX11_orderPosition 56 = .ok (.if_icmp .gt 111, 3) := by decide +kernel
theorem dX11_orderPosition_59 : decode cX11_orderPosition 59 = .ok (.iconst 0, 1) := by decide +kernel
theorem dX11_orderPosition_60 : decode cX11_orderPosition 60 = .ok (.istore 7, 2) := by decide +kernel
theorem dX11_orderPosition_62 : decode cX11_orderPosition 62 = .ok (.iload_n 3, 1) := by decide +kernel
theorem dX11_orderPosition_63 : decode cX11_orderPosition 63 = .ok (.iload 7, 2) := by decide +kernel
theorem dX11_orderPosition_65 : decode cX11_orderPosition 65 = .ok (.invokestatic 136, 3) := by decide +kernel
theorem dX11_orderPosition_68 : decode cX11_orderPosition 68 = .ok (.ifCond .ne 41, 3) := by decide +kernel
theorem dX11_orderPosition_71 : decode cX11_orderPosition 71 = .ok (.iload 7, 2) := by decide +kernel
theorem dX11_orderPosition_73 : decode cX11_orderPosition 73 = .ok (.iload 4, 2) := by decide +kernel
theorem dX11_orderPosition_75 : decode cX11_orderPosition 75 = .ok (.isub, 1) := by decide +kernel
theorem dX11_orderPosition_76 : decode cX11_orderPosition 76 = .ok (.invokestatic 196, 3) := by decide +kernel
theorem dX11_orderPosition_79 : decode cX11_orderPosition 79 = .ok (.aload_n 0, 1) := by decide +kernel
theorem dX11_orderPosition_80 : decode cX11_orderPosition 80 = .ok (.iload_n 3, 1) := by decide +kernel
theorem dX11_orderPosition_81 : decode cX11_orderPosition 81 = .ok (.iconst 1, 1) := by decide +kernel
theorem dX11_orderPosition_82 : decode cX11_orderPosition 82 = .ok (.iload 7, 2) := by decide +kernel
theorem dX11_orderPosition_84 : decode cX11_orderPosition 84 = .ok (.ishl, 1) := by decide +kernel
theorem dX11_orderPosition_85 : decode cX11_orderPosition 85 = .ok (.ior, 1) := by decide +kernel
theorem dX11_orderPosition_86 : decode cX11_orderPosition 86 = .ok (.iload 7, 2) := by decide +kernel
theorem dX11_orderPosition_88 : decode cX11_orderPosition 88 = .ok (.aload_n 0, 1) := by decide +kernel
theorem dX11_orderPosition_89 : decode cX11_orderPosition 89 = .ok (.iload 5, 2) := by decide +kernel
theorem dX11_orderPosition_91 : decode cX11_orderPosition 91 = .ok (.aload_n 0, 1) := by decide +kernel
theorem dX11_orderPosition_92 : decode cX11_orderPosition 92 = .ok (.getfield 45, 3) := by decide +kernel
theorem dX11_orderPosition_95 : decode cX11_orderPosition 95 = .ok (.iload 7, 2) := by decide +kernel
theorem dX11_orderPosition_97 : decode cX11_orderPosition 97 = .ok (.iaload, 1) := by decide +kernel
theorem dX11_orderPosition_98 : decode cX11_orderPosition 98 = .ok (.invokevirtual 147, 3) := by decide +kernel
theorem dX11_orderPosition_101 : decode cX11_orderPosition 101 = .ok (.invokevirtual 201, 3) := by decide +kernel
theorem dX11_orderPosition_104 : decode cX11_orderPosition 104 = .ok (.iadd, 1) := by decide +kernel
theorem dX11_orderPosition_105 : decode cX11_orderPosition 105 = .ok (.iload_n 2, 1) := by decide +kernel
theorem dX11_orderPosition_106 : decode cX11_orderPosition 106 = .ok (.if_icmp .eq 9, 3) := by decide +kernel
theorem dX11_orderPosition_109 : decode cX11_orderPosition 109 = .ok (.iinc 7 1, 3) := by decide +kernel
theorem dX11_orderPosition_112 : decode cX11_orderPosition 112 = .ok (.goto (-50), 3) := by decide +kernel
theorem dX11_orderPosition_115 : decode cX11_orderPosition 115 = .ok (.iload_n 2, 1) := by decide +kernel
theorem dX11_orderPosition_116 : decode cX11_orderPosition 116 = .ok (.iload 7, 2) := by decide +kernel
theorem dX11_orderPosition_118 : decode cX11_orderPosition 118 = .ok (.iload 4, 2) := by decide +kernel
theorem dX11_orderPosition_120 : decode cX11_orderPosition 120 = .ok (.isub, 1) := by decide +kernel
theorem dX11_orderPosition_121 : decode cX11_orderPosition 121 = .ok (.invokestatic 196, 3) := by decide +kernel
theorem dX11_orderPosition_124 : decode cX11_orderPosition 124 = .ok (.isub, 1) := by decide +kernel
theorem dX11_orderPosition_125 : decode cX11_orderPosition 125 = .ok (.istore_n 2, 1) := by decide +kernel
theorem dX11_orderPosition_126 : decode cX11_orderPosition 126 = .ok (.aload_n 0, 1) := by decide +kernel
theorem dX11_orderPosition_127 : decode cX11_orderPosition 127 = .ok (.iload 5, 2) := by decide +kernel
theorem dX11_orderPosition_129 : decode cX11_orderPosition 129 = .ok (.aload_n 0, 1) := by decide +kernel
theorem dX11_orderPosition_130 : decode cX11_orderPosition 130 = .ok (.getfield 45, 3) := by decide +kernel
theorem dX11_orderPosition_133 : decode cX11_orderPosition 133 = .ok (.iload 7, 2) := by decide +kernel
theorem dX11_orderPosition_135 : decode cX11_orderPosition 135 = .ok (.iaload, 1) := by decide +kernel
theorem dX11_orderPosition_136 : decode cX11_orderPosition 136 = .ok (.invokevirtual 147, 3) := by decide +kernel
theorem dX11_orderPosition_139 : decode cX11_orderPosition 139 = .ok (.istore 5, 2) := by decide +kernel
theorem dX11_orderPosition_141 : decode cX11_orderPosition 141 = .ok (.iload_n 3, 1) := by decide +kernel
theorem dX11_orderPosition_142 : decode cX11_orderPosition 142 = .ok (.iconst 1, 1) := by decide +kernel
theorem dX11_orderPosition_143 : decode cX11_orderPosition 143 = .ok (.iload 7, 2) := by decide +kernel
theorem dX11_orderPosition_145 : decode cX11_orderPosition 145 = .ok (.ishl, 1) := by decide +kernel
theorem dX11_orderPosition_146 : decode cX11_orderPosition 146 = .ok (.ior, 1) := by decide +kernel
theorem dX11_orderPosition_147 : decode cX11_orderPosition 147 = .ok (.istore_n 3, 1) := by decide +kernel
theorem dX11_orderPosition_148 : decode cX11_orderPosition 148 = .ok (.iload 7, 2) := by decide +kernel
theorem dX11_orderPosition_150 : decode cX11_orderPosition 150 = .ok (.istore 4, 2) := by decide +kernel
theorem dX11_orderPosition_152 : decode cX11_orderPosition 152 = .ok (.aload_n 0, 1) := by decide +kernel
theorem dX11_orderPosition_153 : decode cX11_orderPosition 153 = .ok (.getfield 92, 3) := by decide +kernel
theorem dX11_orderPosition_156 : decode cX11_orderPosition 156 = .ok (.iload 6, 2) := by decide +kernel
theorem dX11_orderPosition_158 : decode cX11_orderPosition 158 = .ok (.iload 7, 2) := by decide +kernel
theorem dX11_orderPosition_160 : decode cX11_orderPosition 160 = .ok (.iastore, 1) := by decide +kernel
theorem dX11_orderPosition_161 : decode cX11_orderPosition 161 = .ok (.iinc 6 1, 3) := by decide +kernel
theorem dX11_orderPosition_164 : decode cX11_orderPosition 164 = .ok (.goto (-111), 3) := by decide +kernel
theorem dX11_orderPosition_167 : decode cX11_orderPosition 167 = .ok (.aload_n 0, 1) := by decide +kernel
theorem dX11_orderPosition_168 : decode cX11_orderPosition 168 = .ok (.getfield 92, 3) := by decide +kernel
theorem dX11_orderPosition_171 : decode cX11_orderPosition 171 = .ok (.iload_n 1, 1) := by decide +kernel
theorem dX11_orderPosition_172 : decode cX11_orderPosition 172 = .ok (.iaload, 1) := by decide +kernel
theorem dX11_orderPosition_173 : decode cX11_orderPosition 173 = .ok (.ireturn, 1) := by decide +kernel
set_option maxRecDepth 20000 in
theorem ggX11_reaches_X11_in : GoodIn wsX11_reaches wsX11_in := goodIn_r _ [5] (by decide +kernel) (by decide +kernel)
set_option maxRecDepth 20000 in
theorem gX11_reaches_X11_in : GoodIn wsX11_reaches (va_wsS RX11 105 yX11_in wsX11_in) := goodIn_app (goodIn_r _ [2, 3, 4] (by decide +kernel) (by decide +kernel)) ggX11_reaches_X11_in
set_option maxRecDepth 20000 in
theorem ggX11_reaches_X11_fails : GoodIn wsX11_reaches wsX11_fails := goodIn_r _ [9, 1, 34, 35, 36, 37, 38, 39, 40, 41, 42, 43, 44, 45, 46, 47, 48, 49, 50, 51, 52, 53, 54, 55, 56, 57, 58, 59, 60, 61, 62, 63] (by decide +kernel) (by decide +kernel)
set_option maxRecDepth 20000 in
theorem gX11_reaches_X11_fails : GoodIn wsX11_reaches (wsV RX11 109 RX11 yX11_fails wsX11_fails) := goodIn_app (goodIn_r _ [6, 7, 8, 4] (by decide +kernel) (by decide +kernel)) ggX11_reaches_X11_fails
set_option maxRecDepth 20000 in
theorem ggX11_reaches_X11_layReached : GoodIn wsX11_reaches wsX11_layReached := goodIn_ca (goodIn_r _ [13, 14, 15, 16, 4, 17, 18, 19, 20, 21, 22, 23, 24, 25, 26, 27, 28, 29, 34, 35, 36, 37, 38, 39, 40, 41, 42, 43, 44, 45, 46, 47, 48, 49, 50, 51, 52, 53, 54, 55, 56, 57, 58, 59, 60, 61, 62, 63] (by decide +kernel) (by decide +kernel)) (goodIn_sub (fun _ h => List.mem_cons_of_mem _ (List.mem_append_right _ h)) (gsub_f _))
set_option maxRecDepth 20000 in
theorem gX11_reaches_X11_layReached : GoodIn wsX11_reaches (wsV RX11 178 RX11 yX11_layReached wsX11_layReached) := goodIn_app (goodIn_r _ [10, 11, 12, 4] (by decide +kernel) (by decide +kernel)) ggX11_reaches_X11_layReached
set_option maxRecDepth 20000 in
theorem ggX11_reaches_X11_isReached : GoodIn wsX11_reaches wsX11_isReached := goodIn_ca (goodIn_r _ [33, 14, 29, 15, 16, 4, 17, 34, 35, 36, 37, 38, 39, 40, 41, 42, 43, 44, 45, 46, 47, 48, 49, 50, 51, 52, 53, 54, 55, 56, 57, 58, 59, 60, 61, 62, 63] (by decide +kernel) (by decide +kernel)) (goodIn_sub (fun _ h => List.mem_cons_of_mem _ (List.mem_append_right _ h)) (gsub_f _))
set_option maxRecDepth 20000 in
theorem gX11_reaches_X11_isReached : GoodIn wsX11_reaches (wsV RX11 154 RX11 yX11_isReached wsX11_isReached) := goodIn_app (goodIn_r _ [30, 31, 32, 4] (by decide +kernel) (by decide +kernel)) ggX11_reaches_X11_isReached
theorem dX11_reaches_0 : decode cX11_reaches 0 = .ok (.aload_n 0, 1) := by decide +kernel
theorem dX11_reaches_1 : decode cX11_reaches 1 = .ok (.iconst 0, 1) := by decide +kernel
theorem dX11_reaches_2 : decode cX11_reaches 2 = .ok (.putfield 1, 3) := by decide +kernel
theorem dX11_reaches_5 : decode cX11_reaches 5 = .ok (.iload_n 1, 1) := by decide +kernel
theorem dX11_reaches_6 : decode cX11_reaches 6 = .ok (.iconst 0, 1) := by decide +kernel
theorem dX11_reaches_7 : decode cX11_reaches 7 = .ok (.bipush 9, 2) := by decide +kernel
theorem dX11_reaches_9 : decode cX11_reaches 9 = .ok (.invokestatic 105, 3) := by decide +kernel
theorem dX11_reaches_12 : decode cX11_reaches 12 = .ok (.ifCond .eq 23, 3) := by decide +kernel
theorem dX11_reaches_15 : decode cX11_reaches 15 = .ok (.iload_n 2, 1) := by decide +kernel
theorem dX11_reaches_16 : decode cX11_reaches 16 = .ok (.iconst 0, 1) := by decide +kernel
theorem dX11_reaches_17 : decode cX11_reaches 17 = .ok (.bipush 9, 2) := by decide +kernel
theorem dX11_reaches_19 : decode cX11_reaches 19 = .ok (.invokestatic 105, 3) := by decide +kernel
theorem dX11_reaches_22 : decode cX11_reaches 22 = .ok (.ifCond .eq 13, 3) := by decide +kernel
theorem dX11_reaches_25 : decode cX11_reaches 25 = .ok (.iload_n 3, 1) := by decide +kernel
theorem dX11_reaches_26 : decode cX11_reaches 26 = .ok (.iconst 0, 1) := by decide +kernel
theorem dX11_reaches_27 : decode cX11_reaches 27 = .ok (.bipush 9, 2) := by decide +kernel
theorem dX11_reaches_29 : decode cX11_reaches 29 = .ok (.invokestatic 105, 3) := by decide +kernel
theorem dX11_reaches_32 : decode cX11_reaches 32 = .ok (.ifCond .ne 17, 3) := by decide +kernel
theorem dX11_reaches_35 : decode cX11_reaches 35 = .ok (.aload_n 0, 1) := by decide +kernel
theorem dX11_reaches_36 : decode cX11_reaches 36 = .ok (.iconst 1, 1) := by decide +kernel
theorem dX11_reaches_37 : decode cX11_reaches 37 = .ok (.invokevirtual 109, 3) := by decide +kernel
theorem dX11_reaches_40 : decode cX11_reaches 40 = .ok (.ifCond .le 7, 3) := by decide +kernel
theorem dX11_reaches_43 : decode cX11_reaches 43 = .ok (.iconst 1, 1) := by decide +kernel
theorem dX11_reaches_44 : decode cX11_reaches 44 = .ok (.goto 4, 3) := by decide +kernel
theorem dX11_reaches_47 : decode cX11_reaches 47 = .ok (.iconst 0, 1) := by decide +kernel
theorem dX11_reaches_48 : decode cX11_reaches 48 = .ok (.ireturn, 1) := by decide +kernel
theorem dX11_reaches_49 : decode cX11_reaches 49 = .ok (.aload_n 0, 1) := by decide +kernel
theorem dX11_reaches_50 : decode cX11_reaches 50 = .ok (.invokevirtual 178, 3) := by decide +kernel
theorem dX11_reaches_53 : decode cX11_reaches 53 = .ok (.aload_n 0, 1) := by decide +kernel
theorem dX11_reaches_54 : decode cX11_reaches 54 = .ok (.iload_n 1, 1) := by decide +kernel
theorem dX11_reaches_55 : decode cX11_reaches 55 = .ok (.iload_n 2, 1) := by decide +kernel
theorem dX11_reaches_56 : decode cX11_reaches 56 = .ok (.iload_n 3, 1) := by decide +kernel
theorem dX11_reaches_57 : decode cX11_reaches 57 = .ok (.invokevirtual 154, 3) := by decide +kernel
theorem dX11_reaches_60 : decode cX11_reaches 60 = .ok (.ireturn, 1) := by decide +kernel
set_option maxRecDepth 20000 in
theorem ggX11_isMinimal_X11_isReached : GoodIn wsX11_isMinimal wsX11_isReached := goodIn_ca (goodIn_r _ [5, 6, 7, 8, 9, 4, 10, 11, 12, 13, 14, 15, 16, 17, 18, 19, 20, 21, 22, 23, 24, 25, 26, 27, 28, 29, 30, 31, 32, 33, 34, 35, 36, 37, 38, 39, 40] (by decide +kernel) (by decide +kernel)) (goodIn_sub (fun _ h => List.mem_cons_of_mem _ (List.mem_append_right _ h)) (gsub_f _))
set_option maxRecDepth 20000 in
theorem gX11_isMinimal_X11_isReached : GoodIn wsX11_isMinimal (wsV RX11 154 RX11 yX11_isReached wsX11_isReached) := goodIn_app (goodIn_of _ (by decide +kernel)) ggX11_isMinimal_X11_isReached
theorem dX11_isMinimal_0 : decode cX11_isMinimal 0 = .ok (.aload_n 0, 1) := by decide +kernel
theorem dX11_isMinimal_1 : decode cX11_isMinimal 1 = .ok (.iload_n 1, 1) := by decide +kernel
theorem dX11_isMinimal_2 : decode cX11_isMinimal 2 = .ok (.iload_n 2, 1) := by decide +kernel
theorem dX11_isMinimal_3 : decode cX11_isMinimal 3 = .ok (.iload_n 3, 1) := by decide +kernel
theorem dX11_isMinimal_4 : decode cX11_isMinimal 4 = .ok (.invokevirtual 154, 3) := by decide +kernel
theorem dX11_isMinimal_7 : decode cX11_isMinimal 7 = .ok (.ifCond .ne 5, 3) := by decide +kernel
theorem dX11_isMinimal_10 : decode cX11_isMinimal 10 = .ok (.iconst 0, 1) := by decide +kernel
theorem dX11_isMinimal_11 : decode cX11_isMinimal 11 = .ok (.ireturn, 1) := by decide +kernel
theorem dX11_isMinimal_12 : decode cX11_isMinimal 12 = .ok (.iconst 0, 1) := by decide +kernel
theorem dX11_isMinimal_13 : decode cX11_isMinimal 13 = .ok (.istore 4, 2) := by decide +kernel
theorem dX11_isMinimal_15 : decode cX11_isMinimal 15 = .ok (.iload 4, 2) := by decide +kernel
theorem dX11_isMinimal_17 : decode cX11_isMinimal 17 = .ok (.iload_n 1, 1) := by decide +kernel
theorem dX11_isMinimal_18 : decode cX11_isMinimal 18 = .ok (.if_icmp .gt 70, 3) := by decide +kernel
theorem dX11_isMinimal_21 : decode cX11_isMinimal 21 = .ok (.iconst 0, 1) := by decide +kernel
theorem dX11_isMinimal_22 : decode cX11_isMinimal 22 = .ok (.istore 5, 2) := by decide +kernel
theorem dX11_isMinimal_24 : decode cX11_isMinimal 24 = .ok (.iload 5, 2) := by decide +kernel
theorem dX11_isMinimal_26 : decode cX11_isMinimal 26 = .ok (.iload_n 2, 1) := by decide +kernel
theorem dX11_isMinimal_27 : decode cX11_isMinimal 27 = .ok (.if_icmp .gt 55, 3) := by decide +kernel
theorem dX11_isMinimal_30 : decode cX11_isMinimal 30 = .ok (.iconst 0, 1) := by decide +kernel
theorem dX11_isMinimal_31 : decode cX11_isMinimal 31 = .ok (.istore 6, 2) := by decide +kernel
theorem dX11_isMinimal_33 : decode cX11_isMinimal 33 = .ok (.iload 6, 2) := by decide +kernel
theorem dX11_isMinimal_35 : decode cX11_isMinimal 35 = .ok (.iload_n 3, 1) := by decide +kernel
theorem dX11_isMinimal_36 : decode cX11_isMinimal 36 = .ok (.if_icmp .gt 40, 3) := by decide +kernel
theorem dX11_isMinimal_39 : decode cX11_isMinimal 39 = .ok (.iload 4, 2) := by decide +kernel
theorem dX11_isMinimal_41 : decode cX11_isMinimal 41 = .ok (.iload 5, 2) := by decide +kernel
theorem dX11_isMinimal_43 : decode cX11_isMinimal 43 = .ok (.iadd, 1) := by decide +kernel
theorem dX11_isMinimal_44 : decode cX11_isMinimal 44 = .ok (.iload 6, 2) := by decide +kernel
theorem dX11_isMinimal_46 : decode cX11_isMinimal 46 = .ok (.iadd, 1) := by decide +kernel
theorem dX11_isMinimal_47 : decode cX11_isMinimal 47 = .ok (.iload_n 1, 1) := by decide +kernel
theorem dX11_isMinimal_48 : decode cX11_isMinimal 48 = .ok (.iload_n 2, 1) := by decide +kernel
theorem dX11_isMinimal_49 : decode cX11_isMinimal 49 = .ok (.iadd, 1) := by decide +kernel
theorem dX11_isMinimal_50 : decode cX11_isMinimal 50 = .ok (.iload_n 3, 1) := by decide +kernel
theorem dX11_isMinimal_51 : decode cX11_isMinimal 51 = .ok (.iadd, 1) := by decide +kernel
theorem dX11_isMinimal_52 : decode cX11_isMinimal 52 = .ok (.if_icmp .ge 18, 3) := by decide +kernel
theorem dX11_isMinimal_55 : decode cX11_isMinimal 55 = .ok (.aload_n 0, 1) := by decide +kernel
theorem dX11_isMinimal_56 : decode cX11_isMinimal 56 = .ok (.iload 4, 2) := by decide +kernel
theorem dX11_isMinimal_58 : decode cX11_isMinimal 58 = .ok (.iload 5, 2) := by decide +kernel
theorem dX11_isMinimal_60 : decode cX11_isMinimal 60 = .ok (.iload 6, 2) := by decide +kernel
theorem dX11_isMinimal_62 : decode cX11_isMinimal 62 = .ok (.invokevirtual 154, 3) := by decide +kernel
theorem dX11_isMinimal_65 : decode cX11_isMinimal 65 = .ok (.ifCond .eq 5, 3) := by decide +kernel
theorem dX11_isMinimal_68 : decode cX11_isMinimal 68 = .ok (.iconst 0, 1) := by decide +kernel
theorem dX11_isMinimal_69 : decode cX11_isMinimal 69 = .ok (.ireturn, 1) := by decide +kernel
theorem dX11_isMinimal_70 : decode cX11_isMinimal 70 = .ok (.iinc 6 1, 3) := by decide +kernel
theorem dX11_isMinimal_73 : decode cX11_isMinimal 73 = .ok (.goto (-40), 3) := by decide +kernel
theorem dX11_isMinimal_76 : decode cX11_isMinimal 76 = .ok (.iinc 5 1, 3) := by decide +kernel
theorem dX11_isMinimal_79 : decode cX11_isMinimal 79 = .ok (.goto (-55), 3) := by decide +kernel
theorem dX11_isMinimal_82 : decode cX11_isMinimal 82 = .ok (.iinc 4 1, 3) := by decide +kernel
theorem dX11_isMinimal_85 : decode cX11_isMinimal 85 = .ok (.goto (-70), 3) := by decide +kernel
theorem dX11_isMinimal_88 : decode cX11_isMinimal 88 = .ok (.iconst 1, 1) := by decide +kernel
theorem dX11_isMinimal_89 : decode cX11_isMinimal 89 = .ok (.ireturn, 1) := by decide +kernel
set_option maxRecDepth 20000 in
theorem ggX11_layMinimal_X11_layReached : GoodIn wsX11_layMinimal wsX11_layReached := goodIn_ca (goodIn_r _ [6, 7, 8, 9, 5, 10, 11, 12, 13, 14, 15, 16, 17, 18, 19, 20, 21, 22, 31, 32, 33, 34, 35, 36, 37, 38, 39, 40, 41, 42, 43, 44, 45, 46, 47, 48, 49, 50, 51, 52, 53, 54, 55, 56, 57, 58, 59, 60] (by decide +kernel) (by decide +kernel)) (goodIn_sub (fun _ h => List.mem_cons_of_mem _ (List.mem_append_right _ h)) (gsub_f _))
set_option maxRecDepth 20000 in
theorem gX11_layMinimal_X11_layReached : GoodIn wsX11_layMinimal (wsV RX11 178 RX11 yX11_layReached wsX11_layReached) := goodIn_app (goodIn_r _ [2, 3, 4, 5] (by decide +kernel) (by decide +kernel)) ggX11_layMinimal_X11_layReached
set_option maxRecDepth 20000 in
theorem ggX11_layMinimal_X11_isMinimal : GoodIn wsX11_layMinimal wsX11_isMinimal := goodIn_ca (goodIn_r _ [26, 27, 28, 29, 5, 30, 7, 22, 8, 9, 10, 31, 32, 33, 34, 35, 36, 37, 38, 39, 40, 41, 42, 43, 44, 45, 46, 47, 48, 49, 50, 51, 52, 53, 54, 55, 56, 57, 58, 59, 60] (by decide +kernel) (by decide +kernel)) (goodIn_sub (fun _ h => List.mem_cons_of_mem _ (List.mem_append_right _ h)) (gsub_f _))
set_option maxRecDepth 20000 in
theorem gX11_layMinimal_X11_isMinimal : GoodIn wsX11_layMinimal (wsV RX11 216 RX11 yX11_isMinimal wsX11_isMinimal) := goodIn_app (goodIn_r _ [23, 24, 25, 5] (by decide +kernel) (by decide +kernel)) ggX11_layMinimal_X11_isMinimal
theorem dX11_layMinimal_0 : decode cX11_layMinimal 0 = .ok (.aload_n 0, 1) := by decide +kernel
theorem dX11_layMinimal_1 : decode cX11_layMinimal 1 = .ok (.invokevirtual 178, 3) := by decide +kernel
theorem dX11_layMinimal_4 : decode cX11_layMinimal 4 = .ok (.iconst 0, 1) := by decide +kernel
theorem dX11_layMinimal_5 : decode cX11_layMinimal 5 = .ok (.istore_n 1, 1) := by decide +kernel
theorem dX11_layMinimal_6 : decode cX11_layMinimal 6 = .ok (.iload_n 1, 1) := by decide +kernel
theorem dX11_layMinimal_7 : decode cX11_layMinimal 7 = .ok (.sipush 1000, 3) := by decide +kernel
theorem dX11_layMinimal_10 : decode cX11_layMinimal 10 = .ok (.if_icmp .ge 69, 3) := by decide +kernel
theorem dX11_layMinimal_13 : decode cX11_layMinimal 13 = .ok (.aload_n 0, 1) := by decide +kernel
theorem dX11_layMinimal_14 : decode cX11_layMinimal 14 = .ok (.getfield 95, 3) := by decide +kernel
theorem dX11_layMinimal_17 : decode cX11_layMinimal 17 = .ok (.iload_n 1, 1) := by decide +kernel
theorem dX11_layMinimal_18 : decode cX11_layMinimal 18 = .ok (.iload_n 1, 1) := by decide +kernel
theorem dX11_layMinimal_19 : decode cX11_layMinimal 19 = .ok (.bipush 100, 2) := by decide +kernel
theorem dX11_layMinimal_21 : decode cX11_layMinimal 21 = .ok (.idiv, 1) := by decide +kernel
theorem dX11_layMinimal_22 : decode cX11_layMinimal 22 = .ok (.iconst 5, 1) := by decide +kernel
theorem dX11_layMinimal_23 : decode cX11_layMinimal 23 = .ok (.if_icmp .ge 48, 3) := by decide +kernel
theorem dX11_layMinimal_26 : decode cX11_layMinimal 26 = .ok (.iload_n 1, 1) := by decide +kernel
theorem dX11_layMinimal_27 : decode cX11_layMinimal 27 = .ok (.bipush 10, 2) := by decide +kernel
theorem dX11_layMinimal_29 : decode cX11_layMinimal 29 = .ok (.idiv, 1) := by decide +kernel
theorem dX11_layMinimal_30 : decode cX11_layMinimal 30 = .ok (.bipush 10, 2) := by decide +kernel
theorem dX11_layMinimal_32 : decode cX11_layMinimal 32 = .ok (.irem, 1) := by decide +kernel
theorem dX11_layMinimal_33 : decode cX11_layMinimal 33 = .ok (.iconst 5, 1) := by decide +kernel
theorem dX11_layMinimal_34 : decode cX11_layMinimal 34 = .ok (.if_icmp .ge 37, 3) := by decide +kernel
theorem dX11_layMinimal_37 : decode cX11_layMinimal 37 = .ok (.iload_n 1, 1) := by decide +kernel
theorem dX11_layMinimal_38 : decode cX11_layMinimal 38 = .ok (.bipush 10, 2) := by decide +kernel
theorem dX11_layMinimal_40 : decode cX11_layMinimal 40 = .ok (.irem, 1) := by decide +kernel
theorem dX11_layMinimal_41 : decode cX11_layMinimal 41 = .ok (.iconst 5, 1) := by decide +kernel
theorem dX11_layMinimal_42 : decode cX11_layMinimal 42 = .ok (.if_icmp .ge 29, 3) := by decide +kernel
theorem dX11_layMinimal_45 : decode cX11_layMinimal 45 = .ok (.aload_n 0, 1) := by decide +kernel
theorem dX11_layMinimal_46 : decode cX11_layMinimal 46 = .ok (.iload_n 1, 1) := by decide +kernel
theorem dX11_layMinimal_47 : decode cX11_layMinimal 47 = .ok (.bipush 100, 2) := by decide +kernel
theorem dX11_layMinimal_49 : decode cX11_layMinimal 49 = .ok (.idiv, 1) := by decide +kernel
theorem dX11_layMinimal_50 : decode cX11_layMinimal 50 = .ok (.iload_n 1, 1) := by decide +kernel
theorem dX11_layMinimal_51 : decode cX11_layMinimal 51 = .ok (.bipush 10, 2) := by decide +kernel
theorem dX11_layMinimal_53 : decode cX11_layMinimal 53 = .ok (.idiv, 1) := by decide +kernel
theorem dX11_layMinimal_54 : decode cX11_layMinimal 54 = .ok (.bipush 10, 2) := by decide +kernel
theorem dX11_layMinimal_56 : decode cX11_layMinimal 56 = .ok (.irem, 1) := by decide +kernel
theorem dX11_layMinimal_57 : decode cX11_layMinimal 57 = .ok (.iload_n 1, 1) := by decide +kernel
theorem dX11_layMinimal_58 : decode cX11_layMinimal 58 = .ok (.bipush 10, 2) := by decide +kernel
theorem dX11_layMinimal_60 : decode cX11_layMinimal 60 = .ok (.irem, 1) := by decide +kernel
theorem dX11_layMinimal_61 : decode cX11_layMinimal 61 = .ok (.invokevirtual 216, 3) := by decide +kernel
theorem dX11_layMinimal_64 : decode cX11_layMinimal 64 = .ok (.ifCond .eq 7, 3) := by decide +kernel
theorem dX11_layMinimal_67 : decode cX11_layMinimal 67 = .ok (.iconst 1, 1) := by decide +kernel
theorem dX11_layMinimal_68 : decode cX11_layMinimal 68 = .ok (.goto 4, 3) := by decide +kernel
theorem dX11_layMinimal_71 : decode cX11_layMinimal 71 = .ok (.iconst 0, 1) := by decide +kernel
theorem dX11_layMinimal_72 : decode cX11_layMinimal 72 = .ok (.bastore, 1) := by decide +kernel
theorem dX11_layMinimal_73 : decode cX11_layMinimal 73 = .ok (.iinc 1 1, 3) := by decide +kernel
theorem dX11_layMinimal_76 : decode cX11_layMinimal 76 = .ok (.goto (-70), 3) := by decide +kernel
theorem dX11_layMinimal_79 : decode cX11_layMinimal 79 = .ok (.return_, 1) := by decide +kernel
theorem dX11_foundMany_0 : decode cX11_foundMany 0 = .ok (.iconst 0, 1) := by decide +kernel
theorem dX11_foundMany_1 : decode cX11_foundMany 1 = .ok (.istore_n 1, 1) := by decide +kernel
theorem dX11_foundMany_2 : decode cX11_foundMany 2 = .ok (.iconst 0, 1) := by decide +kernel
theorem dX11_foundMany_3 : decode cX11_foundMany 3 = .ok (.istore_n 2, 1) := by decide +kernel
theorem dX11_foundMany_4 : decode cX11_foundMany 4 = .ok (.iload_n 2, 1) := by decide +kernel
theorem dX11_foundMany_5 : decode cX11_foundMany 5 = .ok (.sipush 1000, 3) := by decide +kernel
theorem dX11_foundMany_8 : decode cX11_foundMany 8 = .ok (.if_icmp .ge 26, 3) := by decide +kernel
theorem dX11_foundMany_11 : decode cX11_foundMany 11 = .ok (.iload_n 1, 1) := by decide +kernel
theorem dX11_foundMany_12 : decode cX11_foundMany 12 = .ok (.aload_n 0, 1) := by decide +kernel
theorem dX11_foundMany_13 : decode cX11_foundMany 13 = .ok (.getfield 95, 3) := by decide +kernel
theorem dX11_foundMany_16 : decode cX11_foundMany 16 = .ok (.iload_n 2, 1) := by decide +kernel
theorem dX11_foundMany_17 : decode cX11_foundMany 17 = .ok (.baload, 1) := by decide +kernel
theorem dX11_foundMany_18 : decode cX11_foundMany 18 = .ok (.ifCond .eq 7, 3) := by decide +kernel
theorem dX11_foundMany_21 : decode cX11_foundMany 21 = .ok (.iconst 1, 1) := by decide +kernel
theorem dX11_foundMany_22 : decode cX11_foundMany 22 = .ok (.goto 4, 3) := by decide +kernel
theorem dX11_foundMany_25 : decode cX11_foundMany 25 = .ok (.iconst 0, 1) := by decide +kernel
theorem dX11_foundMany_26 : decode cX11_foundMany 26 = .ok (.iadd, 1) := by decide +kernel
theorem dX11_foundMany_27 : decode cX11_foundMany 27 = .ok (.istore_n 1, 1) := by decide +kernel
theorem dX11_foundMany_28 : decode cX11_foundMany 28 = .ok (.iinc 2 1, 3) := by decide +kernel
theorem dX11_foundMany_31 : decode cX11_foundMany 31 = .ok (.goto (-27), 3) := by decide +kernel
theorem dX11_foundMany_34 : decode cX11_foundMany 34 = .ok (.iload_n 1, 1) := by decide +kernel
theorem dX11_foundMany_35 : decode cX11_foundMany 35 = .ok (.ireturn, 1) := by decide +kernel
set_option maxRecDepth 20000 in
theorem ggX11_foundAt_X11_fails : GoodIn wsX11_foundAt wsX11_fails := goodIn_r _ [6, 7, 8, 9, 10, 11, 12, 13, 14, 15, 16, 17, 18, 19, 20, 21, 22, 23, 24, 25, 26, 27, 28, 29, 30, 31, 32, 33, 34, 35, 36, 37] (by decide +kernel) (by decide +kernel)
set_option maxRecDepth 20000 in
theorem gX11_foundAt_X11_fails : GoodIn wsX11_foundAt (wsV RX11 109 RX11 yX11_fails wsX11_fails) := goodIn_app (goodIn_of _ (by decide +kernel)) ggX11_foundAt_X11_fails
theorem dX11_foundAt_0 : decode cX11_foundAt 0 = .ok (.iload_n 1, 1) := by decide +kernel
theorem dX11_foundAt_1 : decode cX11_foundAt 1 = .ok (.istore_n 2, 1) := by decide +kernel
theorem dX11_foundAt_2 : decode cX11_foundAt 2 = .ok (.iconst 0, 1) := by decide +kernel
theorem dX11_foundAt_3 : decode cX11_foundAt 3 = .ok (.istore_n 3, 1) := by decide +kernel
theorem dX11_foundAt_4 : decode cX11_foundAt 4 = .ok (.iload_n 3, 1) := by decide +kernel
theorem dX11_foundAt_5 : decode cX11_foundAt 5 = .ok (.sipush 1000, 3) := by decide +kernel
theorem dX11_foundAt_8 : decode cX11_foundAt 8 = .ok (.if_icmp .ge 34, 3) := by decide +kernel
theorem dX11_foundAt_11 : decode cX11_foundAt 11 = .ok (.iload_n 1, 1) := by decide +kernel
theorem dX11_foundAt_12 : decode cX11_foundAt 12 = .ok (.ifCond .lt 30, 3) := by decide +kernel
theorem dX11_foundAt_15 : decode cX11_foundAt 15 = .ok (.aload_n 0, 1) := by decide +kernel
theorem dX11_foundAt_16 : decode cX11_foundAt 16 = .ok (.getfield 95, 3) := by decide +kernel
theorem dX11_foundAt_19 : decode cX11_foundAt 19 = .ok (.iload_n 3, 1) := by decide +kernel
theorem dX11_foundAt_20 : decode cX11_foundAt 20 = .ok (.baload, 1) := by decide +kernel
theorem dX11_foundAt_21 : decode cX11_foundAt 21 = .ok (.ifCond .ne 6, 3) := by decide +kernel
theorem dX11_foundAt_24 : decode cX11_foundAt 24 = .ok (.goto 12, 3) := by decide +kernel
theorem dX11_foundAt_27 : decode cX11_foundAt 27 = .ok (.iload_n 2, 1) := by decide +kernel
theorem dX11_foundAt_28 : decode cX11_foundAt 28 = .ok (.ifCond .ne 5, 3) := by decide +kernel
theorem dX11_foundAt_31 : decode cX11_foundAt 31 = .ok (.iload_n 3, 1) := by decide +kernel
theorem dX11_foundAt_32 : decode cX11_foundAt 32 = .ok (.ireturn, 1) := by decide +kernel
theorem dX11_foundAt_33 : decode cX11_foundAt 33 = .ok (.iinc 2 (-1), 3) := by decide +kernel
theorem dX11_foundAt_36 : decode cX11_foundAt 36 = .ok (.iinc 3 1, 3) := by decide +kernel
theorem dX11_foundAt_39 : decode cX11_foundAt 39 = .ok (.goto (-35), 3) := by decide +kernel
theorem dX11_foundAt_42 : decode cX11_foundAt 42 = .ok (.aload_n 0, 1) := by decide +kernel
theorem dX11_foundAt_43 : decode cX11_foundAt 43 = .ok (.iconst 1, 1) := by decide +kernel
theorem dX11_foundAt_44 : decode cX11_foundAt 44 = .ok (.invokevirtual 109, 3) := by decide +kernel
theorem dX11_foundAt_47 : decode cX11_foundAt 47 = .ok (.ireturn, 1) := by decide +kernel
set_option maxRecDepth 20000 in
theorem ggX11_minimalCount_X11_layMinimal : GoodIn wsX11_minimalCount wsX11_layMinimal := goodIn_ca (goodIn_r _ [5, 6, 7, 8, 9, 4, 10, 11, 12, 13, 14, 15, 16, 17, 18, 19, 20, 21, 22, 23, 24, 25, 26, 27, 28, 29, 30, 31, 32, 33, 34, 39, 40, 41, 42, 43, 44, 45, 46, 47, 48, 49, 50, 51, 52, 53, 54, 55, 56, 57, 58, 59, 60, 61, 62, 63, 64, 65, 66, 67, 68] (by decide +kernel) (by decide +kernel)) (goodIn_sub (fun _ h => List.mem_cons_of_mem _ (List.mem_append_right _ h)) (gsub_f _))
set_option maxRecDepth 20000 in
theorem gX11_minimalCount_X11_layMinimal : GoodIn wsX11_minimalCount (wsV RX11 219 RX11 yX11_layMinimal wsX11_layMinimal) := goodIn_app (goodIn_r _ [1, 2, 3, 4] (by decide +kernel) (by decide +kernel)) ggX11_minimalCount_X11_layMinimal
set_option maxRecDepth 20000 in
theorem ggX11_minimalCount_X11_foundMany : GoodIn wsX11_minimalCount wsX11_foundMany := goodIn_ca (goodIn_r _ [38, 6, 39, 40, 41, 42, 43, 44, 45, 46, 47, 48, 49, 50, 51, 52, 53, 54, 55, 56, 57, 58, 59, 60, 61, 62, 63, 64, 65, 66, 67, 68] (by decide +kernel) (by decide +kernel)) (goodIn_sub (fun _ h => List.mem_cons_of_mem _ (List.mem_append_right _ h)) (gsub_f _))
set_option maxRecDepth 20000 in
theorem gX11_minimalCount_X11_foundMany : GoodIn wsX11_minimalCount (wsV RX11 222 RX11 yX11_foundMany wsX11_foundMany) := goodIn_app (goodIn_r _ [35, 36, 37, 4] (by decide +kernel) (by decide +kernel)) ggX11_minimalCount_X11_foundMany
theorem dX11_minimalCount_0 : decode cX11_minimalCount 0 = .ok (.aload_n 0, 1) := by decide +kernel
theorem dX11_minimalCount_1 : decode cX11_minimalCount 1 = .ok (.invokevirtual 219, 3) := by decide +kernel
theorem dX11_minimalCount_4 : decode cX11_minimalCount 4 = .ok (.aload_n 0, 1) := by decide +kernel
theorem dX11_minimalCount_5 : decode cX11_minimalCount 5 = .ok (.invokevirtual 222, 3) := by decide +kernel
theorem dX11_minimalCount_8 : decode cX11_minimalCount 8 = .ok (.ireturn, 1) := by decide +kernel
set_option maxRecDepth 20000 in
theorem ggX11_minimal_X11_layMinimal : GoodIn wsX11_minimal wsX11_layMinimal := goodIn_ca (goodIn_r _ [6, 7, 8, 9, 10, 5, 11, 12, 13, 14, 15, 16, 17, 18, 19, 20, 21, 22, 23, 24, 25, 26, 27, 28, 29, 30, 31, 32, 33, 34, 35, 44, 45, 46, 47, 48, 49, 50, 51, 52, 53, 54, 55, 56, 57, 58, 59, 60, 61, 62, 63, 64, 65, 66, 67, 68, 69, 70, 71, 72, 73] (by decide +kernel) (by decide +kernel)) (goodIn_sub (fun _ h => List.mem_cons_of_mem _ (List.mem_append_right _ h)) (gsub_f _))
set_option maxRecDepth 20000 in
theorem gX11_minimal_X11_layMinimal : GoodIn wsX11_minimal (wsV RX11 219 RX11 yX11_layMinimal wsX11_layMinimal) := goodIn_app (goodIn_r _ [2, 3, 4, 5] (by decide +kernel) (by decide +kernel)) ggX11_minimal_X11_layMinimal
set_option maxRecDepth 20000 in
theorem ggX11_minimal_X11_foundAt : GoodIn wsX11_minimal wsX11_foundAt := goodIn_ca (goodIn_r _ [39, 7, 40, 41, 42, 5, 43, 1, 44, 45, 46, 47, 48, 49, 50, 51, 52, 53, 54, 55, 56, 57, 58, 59, 60, 61, 62, 63, 64, 65, 66, 67, 68, 69, 70, 71, 72, 73] (by decide +kernel) (by decide +kernel)) (goodIn_sub (fun _ h => List.mem_cons_of_mem _ (List.mem_append_right _ h)) (gsub_f _))
set_option maxRecDepth 20000 in
theorem gX11_minimal_X11_foundAt : GoodIn wsX11_minimal (wsV RX11 225 RX11 yX11_foundAt wsX11_foundAt) := goodIn_app (goodIn_r _ [36, 37, 38, 5] (by decide +kernel) (by decide +kernel)) ggX11_minimal_X11_foundAt
theorem dX11_minimal_0 : decode cX11_minimal 0 = .ok (.aload_n 0, 1) := by decide +kernel
theorem dX11_minimal_1 : decode cX11_minimal 1 = .ok (.iconst 0, 1) := by decide +kernel
theorem dX11_minimal_2 : decode cX11_minimal 2 = .ok (.putfield 1, 3) := by decide +kernel
theorem dX11_minimal_5 : decode cX11_minimal 5 = .ok (.aload_n 0, 1) := by decide +kernel
theorem dX11_minimal_6 : decode cX11_minimal 6 = .ok (.invokevirtual 219, 3) := by decide +kernel
theorem dX11_minimal_9 : decode cX11_minimal 9 = .ok (.aload_n 0, 1) := by decide +kernel
theorem dX11_minimal_10 : decode cX11_minimal 10 = .ok (.iload_n 1, 1) := by decide +kernel
theorem dX11_minimal_11 : decode cX11_minimal 11 = .ok (.invokevirtual 225, 3) := by decide +kernel
theorem dX11_minimal_14 : decode cX11_minimal 14 = .ok (.ireturn, 1) := by decide +kernel
set_option maxRecDepth 20000 in
theorem ggX11_goesRound_X11_next : GoodIn wsX11_goesRound wsX11_next := goodIn_ca (goodIn_r _ [7, 8, 15, 16, 17, 18, 19, 20, 21, 22, 23, 24, 25, 26, 27, 28, 29, 30, 31, 32, 33, 34, 35, 36, 37, 38, 39, 40, 41, 42, 43, 44] (by decide +kernel) (by decide +kernel)) (goodIn_sub (fun _ h => List.mem_cons_of_mem _ (List.mem_append_right _ h)) (gsub_f _))
set_option maxRecDepth 20000 in
theorem gX11_goesRound_X11_next : GoodIn wsX11_goesRound (wsV RX11 133 RX11 yX11_next wsX11_next) := goodIn_app (goodIn_of _ (by decide +kernel)) ggX11_goesRound_X11_next
set_option maxRecDepth 20000 in
theorem ggX11_goesRound_X11_has : GoodIn wsX11_goesRound wsX11_has := goodIn_r _ [11] (by decide +kernel) (by decide +kernel)
set_option maxRecDepth 20000 in
theorem gX11_goesRound_X11_has : GoodIn wsX11_goesRound (va_wsS RX11 136 yX11_has wsX11_has) := goodIn_app (goodIn_of _ (by decide +kernel)) ggX11_goesRound_X11_has
set_option maxRecDepth 20000 in
theorem ggX11_goesRound_X11_goesRound : GoodIn wsX11_goesRound wsX11_goesRound := goodIn_ca (goodIn_r _ [0, 1, 2, 3, 4, 5, 6, 7, 8, 9, 10, 11, 12, 13, 14, 15, 16, 17, 18, 19, 20, 21, 22, 23, 24, 25, 26, 27, 28, 29, 30, 31, 32, 33, 34, 35, 36, 37, 38, 39, 40, 41, 42, 43, 44] (by decide +kernel) (by decide +kernel)) (goodIn_sub (fun _ h => List.mem_cons_of_mem _ (List.mem_append_right _ h)) (gsub_f _))
set_option maxRecDepth 20000 in
theorem gX11_goesRound_X11_goesRound : GoodIn wsX11_goesRound (wsV RX11 228 RX11 yX11_goesRound wsX11_goesRound) := goodIn_app (goodIn_of _ (by decide +kernel)) ggX11_goesRound_X11_goesRound
theorem dX11_goesRound_0 : decode cX11_goesRound 0 = .ok (.iconst 0, 1) := by decide +kernel
theorem dX11_goesRound_1 : decode cX11_goesRound 1 = .ok (.istore 5, 2) := by decide +kernel
theorem dX11_goesRound_3 : decode cX11_goesRound 3 = .ok (.iload 5, 2) := by decide +kernel
theorem dX11_goesRound_5 : decode cX11_goesRound 5 = .ok (.iconst 3, 1) := by decide +kernel
theorem dX11_goesRound_6 : decode cX11_goesRound 6 = .ok (.if_icmp .ge 115, 3) := by decide +kernel
theorem dX11_goesRound_9 : decode cX11_goesRound 9 = .ok (.iload 4, 2) := by decide +kernel
theorem dX11_goesRound_11 : decode cX11_goesRound 11 = .ok (.iload 5, 2) := by decide +kernel
theorem dX11_goesRound_13 : decode cX11_goesRound 13 = .ok (.ifCond .ne 8, 3) := by decide +kernel
theorem dX11_goesRound_16 : decode cX11_goesRound 16 = .ok (.bipush 100, 2) := by decide +kernel
theorem dX11_goesRound_18 : decode cX11_goesRound 18 = .ok (.goto 15, 3) := by decide +kernel
theorem dX11_goesRound_21 : decode cX11_goesRound 21 = .ok (.iload 5, 2) := by decide +kernel
theorem dX11_goesRound_23 : decode cX11_goesRound 23 = .ok (.iconst 1, 1) := by decide +kernel
theorem dX11_goesRound_24 : decode cX11_goesRound 24 = .ok (.if_icmp .ne 8, 3) := by decide +kernel
theorem dX11_goesRound_27 : decode cX11_goesRound 27 = .ok (.bipush 10, 2) := by decide +kernel
theorem dX11_goesRound_29 : decode cX11_goesRound 29 = .ok (.goto 4, 3) := by decide +kernel
theorem dX11_goesRound_32 : decode cX11_goesRound 32 = .ok (.iconst 1, 1) := by decide +kernel
theorem dX11_goesRound_33 : decode cX11_goesRound 33 = .ok (.iadd, 1) := by decide +kernel
theorem dX11_goesRound_34 : decode cX11_goesRound 34 = .ok (.istore 6, 2) := by decide +kernel
theorem dX11_goesRound_36 : decode cX11_goesRound 36 = .ok (.iconst 0, 1) := by decide +kernel
theorem dX11_goesRound_37 : decode cX11_goesRound 37 = .ok (.istore 7, 2) := by decide +kernel
theorem dX11_goesRound_39 : decode cX11_goesRound 39 = .ok (.iload 7, 2) := by decide +kernel
theorem dX11_goesRound_41 : decode cX11_goesRound 41 = .ok (.iconst 5, 1) := by decide +kernel
theorem dX11_goesRound_42 : decode cX11_goesRound 42 = .ok (.if_icmp .ge 73, 3) := by decide +kernel
theorem dX11_goesRound_45 : decode cX11_goesRound 45 = .ok (.aload_n 0, 1) := by decide +kernel
theorem dX11_goesRound_46 : decode cX11_goesRound 46 = .ok (.iload_n 2, 1) := by decide +kernel
theorem dX11_goesRound_47 : decode cX11_goesRound 47 = .ok (.iload 5, 2) := by decide +kernel
theorem dX11_goesRound_49 : decode cX11_goesRound 49 = .ok (.invokevirtual 133, 3) := by decide +kernel
theorem dX11_goesRound_52 : decode cX11_goesRound 52 = .ok (.aload_n 0, 1) := by decide +kernel
theorem dX11_goesRound_53 : decode cX11_goesRound 53 = .ok (.getfield 99, 3) := by decide +kernel
theorem dX11_goesRound_56 : decode cX11_goesRound 56 = .ok (.iand, 1) := by decide +kernel
theorem dX11_goesRound_57 : decode cX11_goesRound 57 = .ok (.iload 7, 2) := by decide +kernel
theorem dX11_goesRound_59 : decode cX11_goesRound 59 = .ok (.invokestatic 136, 3) := by decide +kernel
theorem dX11_goesRound_62 : decode cX11_goesRound 62 = .ok (.ifCond .ne 6, 3) := by decide +kernel
theorem dX11_goesRound_65 : decode cX11_goesRound 65 = .ok (.goto 44, 3) := by decide +kernel
theorem dX11_goesRound_68 : decode cX11_goesRound 68 = .ok (.iload 7, 2) := by decide +kernel
theorem dX11_goesRound_70 : decode cX11_goesRound 70 = .ok (.iload_n 1, 1) := by decide +kernel
theorem dX11_goesRound_71 : decode cX11_goesRound 71 = .ok (.if_icmp .ne 14, 3) := by decide +kernel
theorem dX11_goesRound_74 : decode cX11_goesRound 74 = .ok (.aload_n 0, 1) := by decide +kernel
theorem dX11_goesRound_75 : decode cX11_goesRound 75 = .ok (.getfield 95, 3) := by decide +kernel
theorem dX11_goesRound_78 : decode cX11_goesRound 78 = .ok (.iload 6, 2) := by decide +kernel
theorem dX11_goesRound_80 : decode cX11_goesRound 80 = .ok (.iconst 1, 1) := by decide +kernel
theorem dX11_goesRound_81 : decode cX11_goesRound 81 = .ok (.bastore, 1) := by decide +kernel
theorem dX11_goesRound_82 : decode cX11_goesRound 82 = .ok (.goto 27, 3) := by decide +kernel
theorem dX11_goesRound_85 : decode cX11_goesRound 85 = .ok (.iload_n 3, 1) := by decide +kernel
theorem dX11_goesRound_86 : decode cX11_goesRound 86 = .ok (.iload 7, 2) := by decide +kernel
theorem dX11_goesRound_88 : decode cX11_goesRound 88 = .ok (.invokestatic 136, 3) := by decide +kernel
theorem dX11_goesRound_91 : decode cX11_goesRound 91 = .ok (.ifCond .ne 18, 3) := by decide +kernel
theorem dX11_goesRound_94 : decode cX11_goesRound 94 = .ok (.aload_n 0, 1) := by decide +kernel
theorem dX11_goesRound_95 : decode cX11_goesRound 95 = .ok (.iload_n 1, 1) := by decide +kernel
theorem dX11_goesRound_96 : decode cX11_goesRound 96 = .ok (.iload 7, 2) := by decide +kernel
theorem dX11_goesRound_98 : decode cX11_goesRound 98 = .ok (.iload_n 3, 1) := by decide +kernel
theorem dX11_goesRound_99 : decode cX11_goesRound 99 = .ok (.iconst 1, 1) := by decide +kernel
theorem dX11_goesRound_100 : decode cX11_goesRound 100 = .ok (.iload 7, 2) := by decide +kernel
theorem dX11_goesRound_102 : decode cX11_goesRound 102 = .ok (.ishl, 1) := by decide +kernel
theorem dX11_goesRound_103 : decode cX11_goesRound 103 = .ok (.ior, 1) := by decide +kernel
theorem dX11_goesRound_104 : decode cX11_goesRound 104 = .ok (.iload 6, 2) := by decide +kernel
theorem dX11_goesRound_106 : decode cX11_goesRound 106 = .ok (.invokevirtual 228, 3) := by decide +kernel
theorem dX11_goesRound_109 : decode cX11_goesRound 109 = .ok (.iinc 7 1, 3) := by decide +kernel
theorem dX11_goesRound_112 : decode cX11_goesRound 112 = .ok (.goto (-73), 3) := by decide +kernel
theorem dX11_goesRound_115 : decode cX11_goesRound 115 = .ok (.iinc 5 1, 3) := by decide +kernel
theorem dX11_goesRound_118 : decode cX11_goesRound 118 = .ok (.goto (-115), 3) := by decide +kernel
theorem dX11_goesRound_121 : decode cX11_goesRound 121 = .ok (.return_, 1) := by decide +kernel
set_option maxRecDepth 20000 in
theorem ggX11_layCycles_X11_usefulStates : GoodIn wsX11_layCycles wsX11_usefulStates := goodIn_ca (goodIn_r _ [7, 8, 9, 10, 11, 6, 12, 13, 14, 15, 16, 17, 18, 19, 24, 25, 26, 27, 28, 29, 30, 31, 32, 33, 34, 35, 36, 37, 38, 39, 40, 41, 42, 43, 44, 45, 46, 47, 48, 49, 50, 51, 52, 53] (by decide +kernel) (by decide +kernel)) (goodIn_sub (fun _ h => List.mem_cons_of_mem _ (List.mem_append_right _ h)) (gsub_f _))
set_option maxRecDepth 20000 in
theorem gX11_layCycles_X11_usefulStates : GoodIn wsX11_layCycles (wsV RX11 232 RX11 yX11_usefulStates wsX11_usefulStates) := goodIn_app (goodIn_of _ (by decide +kernel)) ggX11_layCycles_X11_usefulStates
set_option maxRecDepth 20000 in
theorem ggX11_layCycles_X11_has : GoodIn wsX11_layCycles wsX11_has := goodIn_r _ [15] (by decide +kernel) (by decide +kernel)
set_option maxRecDepth 20000 in
theorem gX11_layCycles_X11_has : GoodIn wsX11_layCycles (va_wsS RX11 136 yX11_has wsX11_has) := goodIn_app (goodIn_of _ (by decide +kernel)) ggX11_layCycles_X11_has
set_option maxRecDepth 20000 in
theorem ggX11_layCycles_X11_goesRound : GoodIn wsX11_layCycles wsX11_goesRound := goodIn_ca (goodIn_r _ [23, 2, 1, 16, 17, 18, 6, 19, 8, 13, 14, 15, 20, 21, 22, 24, 25, 26, 27, 28, 29, 30, 31, 32, 33, 34, 35, 36, 37, 38, 39, 40, 41, 42, 43, 44, 45, 46, 47, 48, 49, 50, 51, 52, 53] (by decide +kernel) (by decide +kernel)) (goodIn_sub (fun _ h => List.mem_cons_of_mem _ (List.mem_append_right _ h)) (gsub_f _))
set_option maxRecDepth 20000 in
theorem gX11_layCycles_X11_goesRound : GoodIn wsX11_layCycles (wsV RX11 228 RX11 yX11_goesRound wsX11_goesRound) := goodIn_app (goodIn_of _ (by decide +kernel)) ggX11_layCycles_X11_goesRound
theorem dX11_layCycles_0 : decode cX11_layCycles 0 = .ok (.iconst 0, 1) := by decide +kernel
theorem dX11_layCycles_1 : decode cX11_layCycles 1 = .ok (.istore_n 1, 1) := by decide +kernel
theorem dX11_layCycles_2 : decode cX11_layCycles 2 = .ok (.iload_n 1, 1) := by decide +kernel
theorem dX11_layCycles_3 : decode cX11_layCycles 3 = .ok (.sipush 1000, 3) := by decide +kernel
theorem dX11_layCycles_6 : decode cX11_layCycles 6 = .ok (.if_icmp .ge 16, 3) := by decide +kernel
theorem dX11_layCycles_9 : decode cX11_layCycles 9 = .ok (.aload_n 0, 1) := by decide +kernel
theorem dX11_layCycles_10 : decode cX11_layCycles 10 = .ok (.getfield 95, 3) := by decide +kernel
theorem dX11_layCycles_13 : decode cX11_layCycles 13 = .ok (.iload_n 1, 1) := by decide +kernel
theorem dX11_layCycles_14 : decode cX11_layCycles 14 = .ok (.iconst 0, 1) := by decide +kernel
theorem dX11_layCycles_15 : decode cX11_layCycles 15 = .ok (.bastore, 1) := by decide +kernel
theorem dX11_layCycles_16 : decode cX11_layCycles 16 = .ok (.iinc 1 1, 3) := by decide +kernel
theorem dX11_layCycles_19 : decode cX11_layCycles 19 = .ok (.goto (-17), 3) := by decide +kernel
theorem dX11_layCycles_22 : decode cX11_layCycles 22 = .ok (.aload_n 0, 1) := by decide +kernel
theorem dX11_layCycles_23 : decode cX11_layCycles 23 = .ok (.aload_n 0, 1) := by decide +kernel
theorem dX11_layCycles_24 : decode cX11_layCycles 24 = .ok (.invokevirtual 232, 3) := by decide +kernel
theorem dX11_layCycles_27 : decode cX11_layCycles 27 = .ok (.putfield 99, 3) := by decide +kernel
theorem dX11_layCycles_30 : decode cX11_layCycles 30 = .ok (.iconst 0, 1) := by decide +kernel
theorem dX11_layCycles_31 : decode cX11_layCycles 31 = .ok (.istore_n 1, 1) := by decide +kernel
theorem dX11_layCycles_32 : decode cX11_layCycles 32 = .ok (.iload_n 1, 1) := by decide +kernel
theorem dX11_layCycles_33 : decode cX11_layCycles 33 = .ok (.iconst 5, 1) := by decide +kernel
theorem dX11_layCycles_34 : decode cX11_layCycles 34 = .ok (.if_icmp .ge 30, 3) := by decide +kernel
theorem dX11_layCycles_37 : decode cX11_layCycles 37 = .ok (.aload_n 0, 1) := by decide +kernel
theorem dX11_layCycles_38 : decode cX11_layCycles 38 = .ok (.getfield 99, 3) := by decide +kernel
theorem dX11_layCycles_41 : decode cX11_layCycles 41 = .ok (.iload_n 1, 1) := by decide +kernel
theorem dX11_layCycles_42 : decode cX11_layCycles 42 = .ok (.invokestatic 136, 3) := by decide +kernel
theorem dX11_layCycles_45 : decode cX11_layCycles 45 = .ok (.ifCond .eq 13, 3) := by decide +kernel
theorem dX11_layCycles_48 : decode cX11_layCycles 48 = .ok (.aload_n 0, 1) := by decide +kernel
theorem dX11_layCycles_49 : decode cX11_layCycles 49 = .ok (.iload_n 1, 1) := by decide +kernel
theorem dX11_layCycles_50 : decode cX11_layCycles 50 = .ok (.iload_n 1, 1) := by decide +kernel
theorem dX11_layCycles_51 : decode cX11_layCycles 51 = .ok (.iconst 1, 1) := by decide +kernel
theorem dX11_layCycles_52 : decode cX11_layCycles 52 = .ok (.iload_n 1, 1) := by decide +kernel
theorem dX11_layCycles_53 : decode cX11_layCycles 53 = .ok (.ishl, 1) := by decide +kernel
theorem dX11_layCycles_54 : decode cX11_layCycles 54 = .ok (.iconst 0, 1) := by decide +kernel
theorem dX11_layCycles_55 : decode cX11_layCycles 55 = .ok (.invokevirtual 228, 3) := by decide +kernel
theorem dX11_layCycles_58 : decode cX11_layCycles 58 = .ok (.iinc 1 1, 3) := by decide +kernel
theorem dX11_layCycles_61 : decode cX11_layCycles 61 = .ok (.goto (-29), 3) := by decide +kernel
theorem dX11_layCycles_64 : decode cX11_layCycles 64 = .ok (.return_, 1) := by decide +kernel
set_option maxRecDepth 20000 in
theorem ggX11_cycleCount_X11_layCycles : GoodIn wsX11_cycleCount wsX11_layCycles := goodIn_ca (goodIn_r _ [5, 6, 7, 8, 9, 10, 4, 11, 12, 13, 14, 15, 16, 17, 18, 19, 20, 21, 22, 23, 24, 25, 26, 27, 32, 33, 34, 35, 36, 37, 38, 39, 40, 41, 42, 43, 44, 45, 46, 47, 48, 49, 50, 51, 52, 53, 54, 55, 56, 57, 58, 59, 60, 61] (by decide +kernel) (by decide +kernel)) (goodIn_sub (fun _ h => List.mem_cons_of_mem _ (List.mem_append_right _ h)) (gsub_f _))
set_option maxRecDepth 20000 in
theorem gX11_cycleCount_X11_layCycles : GoodIn wsX11_cycleCount (wsV RX11 235 RX11 yX11_layCycles wsX11_layCycles) := goodIn_app (goodIn_r _ [1, 2, 3, 4] (by decide +kernel) (by decide +kernel)) ggX11_cycleCount_X11_layCycles
set_option maxRecDepth 20000 in
theorem ggX11_cycleCount_X11_foundMany : GoodIn wsX11_cycleCount wsX11_foundMany := goodIn_ca (goodIn_r _ [31, 6, 32, 33, 34, 35, 36, 37, 38, 39, 40, 41, 42, 43, 44, 45, 46, 47, 48, 49, 50, 51, 52, 53, 54, 55, 56, 57, 58, 59, 60, 61] (by decide +kernel) (by decide +kernel)) (goodIn_sub (fun _ h => List.mem_cons_of_mem _ (List.mem_append_right _ h)) (gsub_f _))
set_option maxRecDepth 20000 in
theorem gX11_cycleCount_X11_foundMany : GoodIn wsX11_cycleCount (wsV RX11 222 RX11 yX11_foundMany wsX11_foundMany) := goodIn_app (goodIn_r _ [28, 29, 30, 4] (by decide +kernel) (by decide +kernel)) ggX11_cycleCount_X11_foundMany
theorem dX11_cycleCount_0 : decode cX11_cycleCount 0 = .ok (.aload_n 0, 1) := by decide +kernel
theorem dX11_cycleCount_1 : decode cX11_cycleCount 1 = .ok (.invokevirtual 235, 3) := by decide +kernel
theorem dX11_cycleCount_4 : decode cX11_cycleCount 4 = .ok (.aload_n 0, 1) := by decide +kernel
theorem dX11_cycleCount_5 : decode cX11_cycleCount 5 = .ok (.invokevirtual 222, 3) := by decide +kernel
theorem dX11_cycleCount_8 : decode cX11_cycleCount 8 = .ok (.ireturn, 1) := by decide +kernel
set_option maxRecDepth 20000 in
theorem ggX11_cycle_X11_layCycles : GoodIn wsX11_cycle wsX11_layCycles := goodIn_ca (goodIn_r _ [6, 7, 8, 9, 10, 11, 5, 12, 13, 14, 15, 16, 17, 18, 19, 20, 21, 22, 23, 24, 25, 26, 27, 28, 37, 38, 39, 40, 41, 42, 43, 44, 45, 46, 47, 48, 49, 50, 51, 52, 53, 54, 55, 56, 57, 58, 59, 60, 61, 62, 63, 64, 65, 66] (by decide +kernel) (by decide +kernel)) (goodIn_sub (fun _ h => List.mem_cons_of_mem _ (List.mem_append_right _ h)) (gsub_f _))
set_option maxRecDepth 20000 in
theorem gX11_cycle_X11_layCycles : GoodIn wsX11_cycle (wsV RX11 235 RX11 yX11_layCycles wsX11_layCycles) := goodIn_app (goodIn_r _ [2, 3, 4, 5] (by decide +kernel) (by decide +kernel)) ggX11_cycle_X11_layCycles
set_option maxRecDepth 20000 in
theorem ggX11_cycle_X11_foundAt : GoodIn wsX11_cycle wsX11_foundAt := goodIn_ca (goodIn_r _ [32, 7, 33, 34, 35, 5, 36, 1, 37, 38, 39, 40, 41, 42, 43, 44, 45, 46, 47, 48, 49, 50, 51, 52, 53, 54, 55, 56, 57, 58, 59, 60, 61, 62, 63, 64, 65, 66] (by decide +kernel) (by decide +kernel)) (goodIn_sub (fun _ h => List.mem_cons_of_mem _ (List.mem_append_right _ h)) (gsub_f _))
set_option maxRecDepth 20000 in
theorem gX11_cycle_X11_foundAt : GoodIn wsX11_cycle (wsV RX11 225 RX11 yX11_foundAt wsX11_foundAt) := goodIn_app (goodIn_r _ [29, 30, 31, 5] (by decide +kernel) (by decide +kernel)) ggX11_cycle_X11_foundAt
theorem dX11_cycle_0 : decode cX11_cycle 0 = .ok (.aload_n 0, 1) := by decide +kernel
theorem dX11_cycle_1 : decode cX11_cycle 1 = .ok (.iconst 0, 1) := by decide +kernel
theorem dX11_cycle_2 : decode cX11_cycle 2 = .ok (.putfield 1, 3) := by decide +kernel
theorem dX11_cycle_5 : decode cX11_cycle 5 = .ok (.aload_n 0, 1) := by decide +kernel
theorem dX11_cycle_6 : decode cX11_cycle 6 = .ok (.invokevirtual 235, 3) := by decide +kernel
theorem dX11_cycle_9 : decode cX11_cycle 9 = .ok (.aload_n 0, 1) := by decide +kernel
theorem dX11_cycle_10 : decode cX11_cycle 10 = .ok (.iload_n 1, 1) := by decide +kernel
theorem dX11_cycle_11 : decode cX11_cycle 11 = .ok (.invokevirtual 225, 3) := by decide +kernel
theorem dX11_cycle_14 : decode cX11_cycle 14 = .ok (.ireturn, 1) := by decide +kernel
set_option maxRecDepth 20000 in
theorem ggX11_isSet_X11_in : GoodIn wsX11_isSet wsX11_in := goodIn_r _ [4] (by decide +kernel) (by decide +kernel)
set_option maxRecDepth 20000 in
theorem gX11_isSet_X11_in : GoodIn wsX11_isSet (va_wsS RX11 105 yX11_in wsX11_in) := goodIn_app (goodIn_of _ (by decide +kernel)) ggX11_isSet_X11_in
theorem dX11_isSet_0 : decode cX11_isSet 0 = .ok (.iload_n 0, 1) := by decide +kernel
theorem dX11_isSet_1 : decode cX11_isSet 1 = .ok (.iconst 0, 1) := by decide +kernel
theorem dX11_isSet_2 : decode cX11_isSet 2 = .ok (.iconst 1, 1) := by decide +kernel
theorem dX11_isSet_3 : decode cX11_isSet 3 = .ok (.invokestatic 105, 3) := by decide +kernel
theorem dX11_isSet_6 : decode cX11_isSet 6 = .ok (.ireturn, 1) := by decide +kernel
set_option maxRecDepth 20000 in
theorem ggX11_isLinear_X11_isSet : GoodIn wsX11_isLinear wsX11_isSet := goodIn_r _ [5, 6, 7, 4, 8] (by decide +kernel) (by decide +kernel)
set_option maxRecDepth 20000 in
theorem gX11_isLinear_X11_isSet : GoodIn wsX11_isLinear (va_wsS RX11 238 yX11_isSet wsX11_isSet) := goodIn_app (goodIn_of _ (by decide +kernel)) ggX11_isLinear_X11_isSet
set_option maxRecDepth 20000 in
theorem ggX11_isLinear_X11_in : GoodIn wsX11_isLinear wsX11_in := goodIn_r _ [8] (by decide +kernel) (by decide +kernel)
set_option maxRecDepth 20000 in
theorem gX11_isLinear_X11_in : GoodIn wsX11_isLinear (va_wsS RX11 105 yX11_in wsX11_in) := goodIn_app (goodIn_of _ (by decide +kernel)) ggX11_isLinear_X11_in
theorem dX11_isLinear_0 : decode cX11_isLinear 0 = .ok (.iload_n 1, 1) := by decide +kernel
theorem dX11_isLinear_1 : decode cX11_isLinear 1 = .ok (.invokestatic 238, 3) := by decide +kernel
theorem dX11_isLinear_4 : decode cX11_isLinear 4 = .ok (.ifCond .eq 26, 3) := by decide +kernel
theorem dX11_isLinear_7 : decode cX11_isLinear 7 = .ok (.iload_n 2, 1) := by decide +kernel
theorem dX11_isLinear_8 : decode cX11_isLinear 8 = .ok (.iconst 0, 1) := by decide +kernel
theorem dX11_isLinear_9 : decode cX11_isLinear 9 = .ok (.aload_n 0, 1) := by decide +kernel
theorem dX11_isLinear_10 : decode cX11_isLinear 10 = .ok (.getfield 13, 3) := by decide +kernel
theorem dX11_isLinear_13 : decode cX11_isLinear 13 = .ok (.bipush 16, 2) := by decide +kernel
theorem dX11_isLinear_15 : decode cX11_isLinear 15 = .ok (.iload_n 1, 1) := by decide +kernel
theorem dX11_isLinear_16 : decode cX11_isLinear 16 = .ok (.iadd, 1) := by decide +kernel
theorem dX11_isLinear_17 : decode cX11_isLinear 17 = .ok (.iaload, 1) := by decide +kernel
theorem dX11_isLinear_18 : decode cX11_isLinear 18 = .ok (.iconst 1, 1) := by decide +kernel
theorem dX11_isLinear_19 : decode cX11_isLinear 19 = .ok (.isub, 1) := by decide +kernel
theorem dX11_isLinear_20 : decode cX11_isLinear 20 = .ok (.invokestatic 105, 3) := by decide +kernel
theorem dX11_isLinear_23 : decode cX11_isLinear 23 = .ok (.ifCond .eq 7, 3) := by decide +kernel
theorem dX11_isLinear_26 : decode cX11_isLinear 26 = .ok (.iconst 1, 1) := by decide +kernel
theorem dX11_isLinear_27 : decode cX11_isLinear 27 = .ok (.goto 4, 3) := by decide +kernel
theorem dX11_isLinear_30 : decode cX11_isLinear 30 = .ok (.iconst 0, 1) := by decide +kernel
theorem dX11_isLinear_31 : decode cX11_isLinear 31 = .ok (.ireturn, 1) := by decide +kernel
set_option maxRecDepth 20000 in
theorem ggX11_areNine_X11_in : GoodIn wsX11_areNine wsX11_in := goodIn_r _ [4] (by decide +kernel) (by decide +kernel)
set_option maxRecDepth 20000 in
theorem gX11_areNine_X11_in : GoodIn wsX11_areNine (va_wsS RX11 105 yX11_in wsX11_in) := goodIn_app (goodIn_of _ (by decide +kernel)) ggX11_areNine_X11_in
theorem dX11_areNine_0 : decode cX11_areNine 0 = .ok (.iload_n 0, 1) := by decide +kernel
theorem dX11_areNine_1 : decode cX11_areNine 1 = .ok (.iconst 0, 1) := by decide +kernel
theorem dX11_areNine_2 : decode cX11_areNine 2 = .ok (.bipush 9, 2) := by decide +kernel
theorem dX11_areNine_4 : decode cX11_areNine 4 = .ok (.invokestatic 105, 3) := by decide +kernel
theorem dX11_areNine_7 : decode cX11_areNine 7 = .ok (.ifCond .eq 27, 3) := by decide +kernel
theorem dX11_areNine_10 : decode cX11_areNine 10 = .ok (.iload_n 1, 1) := by decide +kernel
theorem dX11_areNine_11 : decode cX11_areNine 11 = .ok (.iconst 0, 1) := by decide +kernel
theorem dX11_areNine_12 : decode cX11_areNine 12 = .ok (.bipush 9, 2) := by decide +kernel
theorem dX11_areNine_14 : decode cX11_areNine 14 = .ok (.invokestatic 105, 3) := by decide +kernel
theorem dX11_areNine_17 : decode cX11_areNine 17 = .ok (.ifCond .eq 17, 3) := by decide +kernel
theorem dX11_areNine_20 : decode cX11_areNine 20 = .ok (.iload_n 2, 1) := by decide +kernel
theorem dX11_areNine_21 : decode cX11_areNine 21 = .ok (.iconst 0, 1) := by decide +kernel
theorem dX11_areNine_22 : decode cX11_areNine 22 = .ok (.bipush 9, 2) := by decide +kernel
theorem dX11_areNine_24 : decode cX11_areNine 24 = .ok (.invokestatic 105, 3) := by decide +kernel
theorem dX11_areNine_27 : decode cX11_areNine 27 = .ok (.ifCond .eq 7, 3) := by decide +kernel
theorem dX11_areNine_30 : decode cX11_areNine 30 = .ok (.iconst 1, 1) := by decide +kernel
theorem dX11_areNine_31 : decode cX11_areNine 31 = .ok (.goto 4, 3) := by decide +kernel
theorem dX11_areNine_34 : decode cX11_areNine 34 = .ok (.iconst 0, 1) := by decide +kernel
theorem dX11_areNine_35 : decode cX11_areNine 35 = .ok (.ireturn, 1) := by decide +kernel
set_option maxRecDepth 20000 in
theorem ggX11_addLinearSet_X11_isSet : GoodIn wsX11_addLinearSet wsX11_isSet := goodIn_r _ [6, 7, 8, 5, 9] (by decide +kernel) (by decide +kernel)
set_option maxRecDepth 20000 in
theorem gX11_addLinearSet_X11_isSet : GoodIn wsX11_addLinearSet (va_wsS RX11 238 yX11_isSet wsX11_isSet) := goodIn_app (goodIn_of _ (by decide +kernel)) ggX11_addLinearSet_X11_isSet
set_option maxRecDepth 20000 in
theorem ggX11_addLinearSet_X11_fails : GoodIn wsX11_addLinearSet wsX11_fails := goodIn_r _ [13, 1, 23, 24, 25, 26, 27, 28, 29, 30, 31, 32, 33, 34, 35, 36, 37, 38, 39, 40, 41, 42, 43, 44, 45, 46, 47, 48, 49, 50, 51, 52] (by decide +kernel) (by decide +kernel)
set_option maxRecDepth 20000 in
theorem gX11_addLinearSet_X11_fails : GoodIn wsX11_addLinearSet (wsV RX11 109 RX11 yX11_fails wsX11_fails) := goodIn_app (goodIn_of _ (by decide +kernel)) ggX11_addLinearSet_X11_fails
set_option maxRecDepth 20000 in
theorem ggX11_addLinearSet_X11_areNine : GoodIn wsX11_addLinearSet wsX11_areNine := goodIn_r _ [16, 7, 8, 5, 9] (by decide +kernel) (by decide +kernel)
set_option maxRecDepth 20000 in
theorem gX11_addLinearSet_X11_areNine : GoodIn wsX11_addLinearSet (va_wsS RX11 241 yX11_areNine wsX11_areNine) := goodIn_app (goodIn_of _ (by decide +kernel)) ggX11_addLinearSet_X11_areNine
set_option maxRecDepth 20000 in
theorem ggX11_addLinearSet_X11_keeps : GoodIn wsX11_addLinearSet wsX11_keeps := goodIn_ca (goodIn_r _ [20, 21, 22, 2, 23, 24, 25, 26, 27, 28, 29, 30, 31, 32, 33, 34, 35, 36, 37, 38, 39, 40, 41, 42, 43, 44, 45, 46, 47, 48, 49, 50, 51, 52] (by decide +kernel) (by decide +kernel)) (goodIn_sub (fun _ h => List.mem_cons_of_mem _ (List.mem_append_right _ h)) (gsub_f _))
set_option maxRecDepth 20000 in
theorem gX11_addLinearSet_X11_keeps : GoodIn wsX11_addLinearSet (wsV RX11 123 RX11 yX11_keeps wsX11_keeps) := goodIn_app (goodIn_of _ (by decide +kernel)) ggX11_addLinearSet_X11_keeps
theorem dX11_addLinearSet_0 : decode cX11_addLinearSet 0 = .ok (.aload_n 0, 1) := by decide +kernel
theorem dX11_addLinearSet_1 : decode cX11_addLinearSet 1 = .ok (.iconst 0, 1) := by decide +kernel
theorem dX11_addLinearSet_2 : decode cX11_addLinearSet 2 = .ok (.putfield 1, 3) := by decide +kernel
theorem dX11_addLinearSet_5 : decode cX11_addLinearSet 5 = .ok (.iload_n 1, 1) := by decide +kernel
theorem dX11_addLinearSet_6 : decode cX11_addLinearSet 6 = .ok (.invokestatic 238, 3) := by decide +kernel
theorem dX11_addLinearSet_9 : decode cX11_addLinearSet 9 = .ok (.ifCond .ne 9, 3) := by decide +kernel
theorem dX11_addLinearSet_12 : decode cX11_addLinearSet 12 = .ok (.aload_n 0, 1) := by decide +kernel
theorem dX11_addLinearSet_13 : decode cX11_addLinearSet 13 = .ok (.iconst 1, 1) := by decide +kernel
theorem dX11_addLinearSet_14 : decode cX11_addLinearSet 14 = .ok (.invokevirtual 109, 3) := by decide +kernel
theorem dX11_addLinearSet_17 : decode cX11_addLinearSet 17 = .ok (.ireturn, 1) := by decide +kernel
theorem dX11_addLinearSet_18 : decode cX11_addLinearSet 18 = .ok (.iload_n 2, 1) := by decide +kernel
theorem dX11_addLinearSet_19 : decode cX11_addLinearSet 19 = .ok (.iload_n 3, 1) := by decide +kernel
theorem dX11_addLinearSet_20 : decode cX11_addLinearSet 20 = .ok (.iload 4, 2) := by decide +kernel
theorem dX11_addLinearSet_22 : decode cX11_addLinearSet 22 = .ok (.invokestatic 241, 3) := by decide +kernel
theorem dX11_addLinearSet_25 : decode cX11_addLinearSet 25 = .ok (.ifCond .ne 9, 3) := by decide +kernel
theorem dX11_addLinearSet_28 : decode cX11_addLinearSet 28 = .ok (.aload_n 0, 1) := by decide +kernel
theorem dX11_addLinearSet_29 : decode cX11_addLinearSet 29 = .ok (.iconst 2, 1) := by decide +kernel
theorem dX11_addLinearSet_30 : decode cX11_addLinearSet 30 = .ok (.invokevirtual 109, 3) := by decide +kernel
theorem dX11_addLinearSet_33 : decode cX11_addLinearSet 33 = .ok (.ireturn, 1) := by decide +kernel
theorem dX11_addLinearSet_34 : decode cX11_addLinearSet 34 = .ok (.aload_n 0, 1) := by decide +kernel
theorem dX11_addLinearSet_35 : decode cX11_addLinearSet 35 = .ok (.getfield 13, 3) := by decide +kernel
theorem dX11_addLinearSet_38 : decode cX11_addLinearSet 38 = .ok (.bipush 16, 2) := by decide +kernel
theorem dX11_addLinearSet_40 : decode cX11_addLinearSet 40 = .ok (.iload_n 1, 1) := by decide +kernel
theorem dX11_addLinearSet_41 : decode cX11_addLinearSet 41 = .ok (.iadd, 1) := by decide +kernel
theorem dX11_addLinearSet_42 : decode cX11_addLinearSet 42 = .ok (.iaload, 1) := by decide +kernel
theorem dX11_addLinearSet_43 : decode cX11_addLinearSet 43 = .ok (.istore 5, 2) := by decide +kernel
theorem dX11_addLinearSet_45 : decode cX11_addLinearSet 45 = .ok (.iload 5, 2) := by decide +kernel
theorem dX11_addLinearSet_47 : decode cX11_addLinearSet 47 = .ok (.iconst 4, 1) := by decide +kernel
theorem dX11_addLinearSet_48 : decode cX11_addLinearSet 48 = .ok (.if_icmp .ne 9, 3) := by decide +kernel
theorem dX11_addLinearSet_51 : decode cX11_addLinearSet 51 = .ok (.aload_n 0, 1) := by decide +kernel
theorem dX11_addLinearSet_52 : decode cX11_addLinearSet 52 = .ok (.iconst 3, 1) := by decide +kernel
theorem dX11_addLinearSet_53 : decode cX11_addLinearSet 53 = .ok (.invokevirtual 109, 3) := by decide +kernel
theorem dX11_addLinearSet_56 : decode cX11_addLinearSet 56 = .ok (.ireturn, 1) := by decide +kernel
theorem dX11_addLinearSet_57 : decode cX11_addLinearSet 57 = .ok (.aload_n 0, 1) := by decide +kernel
theorem dX11_addLinearSet_58 : decode cX11_addLinearSet 58 = .ok (.invokevirtual 123, 3) := by decide +kernel
theorem dX11_addLinearSet_61 : decode cX11_addLinearSet 61 = .ok (.iconst 4, 1) := by decide +kernel
theorem dX11_addLinearSet_62 : decode cX11_addLinearSet 62 = .ok (.iload_n 1, 1) := by decide +kernel
theorem dX11_addLinearSet_63 : decode cX11_addLinearSet 63 = .ok (.imul, 1) := by decide +kernel
theorem dX11_addLinearSet_64 : decode cX11_addLinearSet 64 = .ok (.iload 5, 2) := by decide +kernel
theorem dX11_addLinearSet_66 : decode cX11_addLinearSet 66 = .ok (.iadd, 1) := by decide +kernel
theorem dX11_addLinearSet_67 : decode cX11_addLinearSet 67 = .ok (.istore 6, 2) := by decide +kernel
theorem dX11_addLinearSet_69 : decode cX11_addLinearSet 69 = .ok (.aload_n 0, 1) := by decide +kernel
theorem dX11_addLinearSet_70 : decode cX11_addLinearSet 70 = .ok (.getfield 13, 3) := by decide +kernel
theorem dX11_addLinearSet_73 : decode cX11_addLinearSet 73 = .ok (.bipush 18, 2) := by decide +kernel
theorem dX11_addLinearSet_75 : decode cX11_addLinearSet 75 = .ok (.iconst 3, 1) := by decide +kernel
theorem dX11_addLinearSet_76 : decode cX11_addLinearSet 76 = .ok (.iload 6, 2) := by decide +kernel
theorem dX11_addLinearSet_78 : decode cX11_addLinearSet 78 = .ok (.imul, 1) := by decide +kernel
theorem dX11_addLinearSet_79 : decode cX11_addLinearSet 79 = .ok (.iadd, 1) := by decide +kernel
theorem dX11_addLinearSet_80 : decode cX11_addLinearSet 80 = .ok (.iload_n 2, 1) := by decide +kernel
theorem dX11_addLinearSet_81 : decode cX11_addLinearSet 81 = .ok (.iastore, 1) := by decide +kernel
theorem dX11_addLinearSet_82 : decode cX11_addLinearSet 82 = .ok (.aload_n 0, 1) := by decide +kernel
theorem dX11_addLinearSet_83 : decode cX11_addLinearSet 83 = .ok (.getfield 13, 3) := by decide +kernel
theorem dX11_addLinearSet_86 : decode cX11_addLinearSet 86 = .ok (.bipush 18, 2) := by decide +kernel
theorem dX11_addLinearSet_88 : decode cX11_addLinearSet 88 = .ok (.iconst 3, 1) := by decide +kernel
theorem dX11_addLinearSet_89 : decode cX11_addLinearSet 89 = .ok (.iload 6, 2) := by decide +kernel
theorem dX11_addLinearSet_91 : decode cX11_addLinearSet 91 = .ok (.imul, 1) := by decide +kernel
theorem dX11_addLinearSet_92 : decode cX11_addLinearSet 92 = .ok (.iadd, 1) := by decide +kernel
theorem dX11_addLinearSet_93 : decode cX11_addLinearSet 93 = .ok (.iconst 1, 1) := by decide +kernel
theorem dX11_addLinearSet_94 : decode cX11_addLinearSet 94 = .ok (.iadd, 1) := by decide +kernel
theorem dX11_addLinearSet_95 : decode cX11_addLinearSet 95 = .ok (.iload_n 3, 1) := by decide +kernel
theorem dX11_addLinearSet_96 : decode cX11_addLinearSet 96 = .ok (.iastore, 1) := by decide +kernel
theorem dX11_addLinearSet_97 : decode cX11_addLinearSet 97 = .ok (.aload_n 0, 1) := by decide +kernel
theorem dX11_addLinearSet_98 : decode cX11_addLinearSet 98 = .ok (.getfield 13, 3) := by decide +kernel
theorem dX11_addLinearSet_101 : decode cX11_addLinearSet 101 = .ok (.bipush 18, 2) := by decide +kernel
theorem dX11_addLinearSet_103 : decode cX11_addLinearSet 103 = .ok (.iconst 3, 1) := by decide +kernel
theorem dX11_addLinearSet_104 : decode cX11_addLinearSet 104 = .ok (.iload 6, 2) := by decide +kernel
theorem dX11_addLinearSet_106 : decode cX11_addLinearSet 106 = .ok (.imul, 1) := by decide +kernel
theorem dX11_addLinearSet_107 : decode cX11_addLinearSet 107 = .ok (.iadd, 1) := by decide +kernel
theorem dX11_addLinearSet_108 : decode cX11_addLinearSet 108 = .ok (.iconst 2, 1) := by decide +kernel
theorem dX11_addLinearSet_109 : decode cX11_addLinearSet 109 = .ok (.iadd, 1) := by decide +kernel
theorem dX11_addLinearSet_110 : decode cX11_addLinearSet 110 = .ok (.iload 4, 2) := by decide +kernel
theorem dX11_addLinearSet_112 : decode cX11_addLinearSet 112 = .ok (.iastore, 1) := by decide +kernel
theorem dX11_addLinearSet_113 : decode cX11_addLinearSet 113 = .ok (.aload_n 0, 1) := by decide +kernel
theorem dX11_addLinearSet_114 : decode cX11_addLinearSet 114 = .ok (.getfield 13, 3) := by decide +kernel
theorem dX11_addLinearSet_117 : decode cX11_addLinearSet 117 = .ok (.bipush 42, 2) := by decide +kernel
theorem dX11_addLinearSet_119 : decode cX11_addLinearSet 119 = .ok (.iload 6, 2) := by decide +kernel
theorem dX11_addLinearSet_121 : decode cX11_addLinearSet 121 = .ok (.iadd, 1) := by decide +kernel
theorem dX11_addLinearSet_122 : decode cX11_addLinearSet 122 = .ok (.iconst 0, 1) := by decide +kernel
theorem dX11_addLinearSet_123 : decode cX11_addLinearSet 123 = .ok (.iastore, 1) := by decide +kernel
theorem dX11_addLinearSet_124 : decode cX11_addLinearSet 124 = .ok (.aload_n 0, 1) := by decide +kernel
theorem dX11_addLinearSet_125 : decode cX11_addLinearSet 125 = .ok (.getfield 13, 3) := by decide +kernel
theorem dX11_addLinearSet_128 : decode cX11_addLinearSet 128 = .ok (.bipush 16, 2) := by decide +kernel
theorem dX11_addLinearSet_130 : decode cX11_addLinearSet 130 = .ok (.iload_n 1, 1) := by decide +kernel
theorem dX11_addLinearSet_131 : decode cX11_addLinearSet 131 = .ok (.iadd, 1) := by decide +kernel
theorem dX11_addLinearSet_132 : decode cX11_addLinearSet 132 = .ok (.dup2, 1) := by decide +kernel
theorem dX11_addLinearSet_133 : decode cX11_addLinearSet 133 = .ok (.iaload, 1) := by decide +kernel
theorem dX11_addLinearSet_134 : decode cX11_addLinearSet 134 = .ok (.iconst 1, 1) := by decide +kernel
theorem dX11_addLinearSet_135 : decode cX11_addLinearSet 135 = .ok (.iadd, 1) := by decide +kernel
theorem dX11_addLinearSet_136 : decode cX11_addLinearSet 136 = .ok (.iastore, 1) := by decide +kernel
theorem dX11_addLinearSet_137 : decode cX11_addLinearSet 137 = .ok (.iload 5, 2) := by decide +kernel
theorem dX11_addLinearSet_139 : decode cX11_addLinearSet 139 = .ok (.ireturn, 1) := by decide +kernel
set_option maxRecDepth 20000 in
theorem ggX11_addPeriod_X11_isLinear : GoodIn wsX11_addPeriod wsX11_isLinear := goodIn_ca (goodIn_r _ [7, 2, 8, 9, 6, 10, 11, 12, 13, 27, 28, 29, 30, 31, 32, 33, 34, 35, 36, 37, 38, 39, 40, 41, 42, 43, 44, 45, 46, 47, 48, 49, 50, 51, 52, 53, 54, 55, 56] (by decide +kernel) (by decide +kernel)) (goodIn_sub (fun _ h => List.mem_cons_of_mem _ (List.mem_append_right _ h)) (gsub_f _))
set_option maxRecDepth 20000 in
theorem gX11_addPeriod_X11_isLinear : GoodIn wsX11_addPeriod (wsV RX11 244 RX11 yX11_isLinear wsX11_isLinear) := goodIn_app (goodIn_r _ [3, 4, 5, 6] (by decide +kernel) (by decide +kernel)) ggX11_addPeriod_X11_isLinear
set_option maxRecDepth 20000 in
theorem ggX11_addPeriod_X11_fails : GoodIn wsX11_addPeriod wsX11_fails := goodIn_r _ [17, 1, 27, 28, 29, 30, 31, 32, 33, 34, 35, 36, 37, 38, 39, 40, 41, 42, 43, 44, 45, 46, 47, 48, 49, 50, 51, 52, 53, 54, 55, 56] (by decide +kernel) (by decide +kernel)
set_option maxRecDepth 20000 in
theorem gX11_addPeriod_X11_fails : GoodIn wsX11_addPeriod (wsV RX11 109 RX11 yX11_fails wsX11_fails) := goodIn_app (goodIn_r _ [14, 15, 16, 6] (by decide +kernel) (by decide +kernel)) ggX11_addPeriod_X11_fails
set_option maxRecDepth 20000 in
theorem ggX11_addPeriod_X11_areNine : GoodIn wsX11_addPeriod wsX11_areNine := goodIn_r _ [20, 11, 12, 6, 13] (by decide +kernel) (by decide +kernel)
set_option maxRecDepth 20000 in
theorem gX11_addPeriod_X11_areNine : GoodIn wsX11_addPeriod (va_wsS RX11 241 yX11_areNine wsX11_areNine) := goodIn_app (goodIn_r _ [18, 19, 6] (by decide +kernel) (by decide +kernel)) ggX11_addPeriod_X11_areNine
set_option maxRecDepth 20000 in
theorem ggX11_addPeriod_X11_keeps : GoodIn wsX11_addPeriod wsX11_keeps := goodIn_ca (goodIn_r _ [24, 25, 26, 2, 27, 28, 29, 30, 31, 32, 33, 34, 35, 36, 37, 38, 39, 40, 41, 42, 43, 44, 45, 46, 47, 48, 49, 50, 51, 52, 53, 54, 55, 56] (by decide +kernel) (by decide +kernel)) (goodIn_sub (fun _ h => List.mem_cons_of_mem _ (List.mem_append_right _ h)) (gsub_f _))
set_option maxRecDepth 20000 in
theorem gX11_addPeriod_X11_keeps : GoodIn wsX11_addPeriod (wsV RX11 123 RX11 yX11_keeps wsX11_keeps) := goodIn_app (goodIn_r _ [21, 22, 23, 6] (by decide +kernel) (by decide +kernel)) ggX11_addPeriod_X11_keeps
theorem dX11_addPeriod_0 : decode cX11_addPeriod 0 = .ok (.aload_n 0, 1) := by decide +kernel
theorem dX11_addPeriod_1 : decode cX11_addPeriod 1 = .ok (.iconst 0, 1) := by decide +kernel
theorem dX11_addPeriod_2 : decode cX11_addPeriod 2 = .ok (.putfield 1, 3) := by decide +kernel
theorem dX11_addPeriod_5 : decode cX11_addPeriod 5 = .ok (.aload_n 0, 1) := by decide +kernel
theorem dX11_addPeriod_6 : decode cX11_addPeriod 6 = .ok (.iload_n 1, 1) := by decide +kernel
theorem dX11_addPeriod_7 : decode cX11_addPeriod 7 = .ok (.iload_n 2, 1) := by decide +kernel
theorem dX11_addPeriod_8 : decode cX11_addPeriod 8 = .ok (.invokevirtual 244, 3) := by decide +kernel
theorem dX11_addPeriod_11 : decode cX11_addPeriod 11 = .ok (.ifCond .ne 9, 3) := by decide +kernel
theorem dX11_addPeriod_14 : decode cX11_addPeriod 14 = .ok (.aload_n 0, 1) := by decide +kernel
theorem dX11_addPeriod_15 : decode cX11_addPeriod 15 = .ok (.iconst 1, 1) := by decide +kernel
theorem dX11_addPeriod_16 : decode cX11_addPeriod 16 = .ok (.invokevirtual 109, 3) := by decide +kernel
theorem dX11_addPeriod_19 : decode cX11_addPeriod 19 = .ok (.ireturn, 1) := by decide +kernel
theorem dX11_addPeriod_20 : decode cX11_addPeriod 20 = .ok (.iload_n 3, 1) := by decide +kernel
theorem dX11_addPeriod_21 : decode cX11_addPeriod 21 = .ok (.iload 4, 2) := by decide +kernel
theorem dX11_addPeriod_23 : decode cX11_addPeriod 23 = .ok (.iload 5, 2) := by decide +kernel
theorem dX11_addPeriod_25 : decode cX11_addPeriod 25 = .ok (.invokestatic 241, 3) := by decide +kernel
theorem dX11_addPeriod_28 : decode cX11_addPeriod 28 = .ok (.ifCond .eq 13, 3) := by decide +kernel
theorem dX11_addPeriod_31 : decode cX11_addPeriod 31 = .ok (.iload_n 3, 1) := by decide +kernel
theorem dX11_addPeriod_32 : decode cX11_addPeriod 32 = .ok (.iload 4, 2) := by decide +kernel
theorem dX11_addPeriod_34 : decode cX11_addPeriod 34 = .ok (.iadd, 1) := by decide +kernel
theorem dX11_addPeriod_35 : decode cX11_addPeriod 35 = .ok (.iload 5, 2) := by decide +kernel
theorem dX11_addPeriod_37 : decode cX11_addPeriod 37 = .ok (.iadd, 1) := by decide +kernel
theorem dX11_addPeriod_38 : decode cX11_addPeriod 38 = .ok (.ifCond .ne 9, 3) := by decide +kernel
theorem dX11_addPeriod_41 : decode cX11_addPeriod 41 = .ok (.aload_n 0, 1) := by decide +kernel
theorem dX11_addPeriod_42 : decode cX11_addPeriod 42 = .ok (.iconst 2, 1) := by decide +kernel
theorem dX11_addPeriod_43 : decode cX11_addPeriod 43 = .ok (.invokevirtual 109, 3) := by decide +kernel
theorem dX11_addPeriod_46 : decode cX11_addPeriod 46 = .ok (.ireturn, 1) := by decide +kernel
theorem dX11_addPeriod_47 : decode cX11_addPeriod 47 = .ok (.iconst 4, 1) := by decide +kernel
theorem dX11_addPeriod_48 : decode cX11_addPeriod 48 = .ok (.iload_n 1, 1) := by decide +kernel
theorem dX11_addPeriod_49 : decode cX11_addPeriod 49 = .ok (.imul, 1) := by decide +kernel
theorem dX11_addPeriod_50 : decode cX11_addPeriod 50 = .ok (.iload_n 2, 1) := by decide +kernel
theorem dX11_addPeriod_51 : decode cX11_addPeriod 51 = .ok (.iadd, 1) := by decide +kernel
theorem dX11_addPeriod_52 : decode cX11_addPeriod 52 = .ok (.istore 6, 2) := by decide +kernel
theorem dX11_addPeriod_54 : decode cX11_addPeriod 54 = .ok (.aload_n 0, 1) := by decide +kernel
theorem dX11_addPeriod_55 : decode cX11_addPeriod 55 = .ok (.getfield 13, 3) := by decide +kernel
theorem dX11_addPeriod_58 : decode cX11_addPeriod 58 = .ok (.bipush 42, 2) := by decide +kernel
theorem dX11_addPeriod_60 : decode cX11_addPeriod 60 = .ok (.iload 6, 2) := by decide +kernel
theorem dX11_addPeriod_62 : decode cX11_addPeriod 62 = .ok (.iadd, 1) := by decide +kernel
theorem dX11_addPeriod_63 : decode cX11_addPeriod 63 = .ok (.iaload, 1) := by decide +kernel
theorem dX11_addPeriod_64 : decode cX11_addPeriod 64 = .ok (.iconst 3, 1) := by decide +kernel
theorem dX11_addPeriod_65 : decode cX11_addPeriod 65 = .ok (.if_icmp .ne 9, 3) := by decide +kernel
theorem dX11_addPeriod_68 : decode cX11_addPeriod 68 = .ok (.aload_n 0, 1) := by decide +kernel
theorem dX11_addPeriod_69 : decode cX11_addPeriod 69 = .ok (.iconst 3, 1) := by decide +kernel
theorem dX11_addPeriod_70 : decode cX11_addPeriod 70 = .ok (.invokevirtual 109, 3) := by decide +kernel
theorem dX11_addPeriod_73 : decode cX11_addPeriod 73 = .ok (.ireturn, 1) := by decide +kernel
theorem dX11_addPeriod_74 : decode cX11_addPeriod 74 = .ok (.aload_n 0, 1) := by decide +kernel
theorem dX11_addPeriod_75 : decode cX11_addPeriod 75 = .ok (.invokevirtual 123, 3) := by decide +kernel
theorem dX11_addPeriod_78 : decode cX11_addPeriod 78 = .ok (.bipush 50, 2) := by decide +kernel
theorem dX11_addPeriod_80 : decode cX11_addPeriod 80 = .ok (.bipush 9, 2) := by decide +kernel
theorem dX11_addPeriod_82 : decode cX11_addPeriod 82 = .ok (.iload 6, 2) := by decide +kernel
theorem dX11_addPeriod_84 : decode cX11_addPeriod 84 = .ok (.imul, 1) := by decide +kernel
theorem dX11_addPeriod_85 : decode cX11_addPeriod 85 = .ok (.iadd, 1) := by decide +kernel
theorem dX11_addPeriod_86 : decode cX11_addPeriod 86 = .ok (.iconst 3, 1) := by decide +kernel
theorem dX11_addPeriod_87 : decode cX11_addPeriod 87 = .ok (.aload_n 0, 1) := by decide +kernel
theorem dX11_addPeriod_88 : decode cX11_addPeriod 88 = .ok (.getfield 13, 3) := by decide +kernel
theorem dX11_addPeriod_91 : decode cX11_addPeriod 91 = .ok (.bipush 42, 2) := by decide +kernel
theorem dX11_addPeriod_93 : decode cX11_addPeriod 93 = .ok (.iload 6, 2) := by decide +kernel
theorem dX11_addPeriod_95 : decode cX11_addPeriod 95 = .ok (.iadd, 1) := by decide +kernel
theorem dX11_addPeriod_96 : decode cX11_addPeriod 96 = .ok (.iaload, 1) := by decide +kernel
theorem dX11_addPeriod_97 : decode cX11_addPeriod 97 = .ok (.imul, 1) := by decide +kernel
theorem dX11_addPeriod_98 : decode cX11_addPeriod 98 = .ok (.iadd, 1) := by decide +kernel
theorem dX11_addPeriod_99 : decode cX11_addPeriod 99 = .ok (.istore 7, 2) := by decide +kernel
theorem dX11_addPeriod_101 : decode cX11_addPeriod 101 = .ok (.aload_n 0, 1) := by decide +kernel
theorem dX11_addPeriod_102 : decode cX11_addPeriod 102 = .ok (.getfield 13, 3) := by decide +kernel
theorem dX11_addPeriod_105 : decode cX11_addPeriod 105 = .ok (.iload 7, 2) := by decide +kernel
theorem dX11_addPeriod_107 : decode cX11_addPeriod 107 = .ok (.iload_n 3, 1) := by decide +kernel
theorem dX11_addPeriod_108 : decode cX11_addPeriod 108 = .ok (.iastore, 1) := by decide +kernel
theorem dX11_addPeriod_109 : decode cX11_addPeriod 109 = .ok (.aload_n 0, 1) := by decide +kernel
theorem dX11_addPeriod_110 : decode cX11_addPeriod 110 = .ok (.getfield 13, 3) := by decide +kernel
theorem dX11_addPeriod_113 : decode cX11_addPeriod 113 = .ok (.iload 7, 2) := by decide +kernel
theorem dX11_addPeriod_115 : decode cX11_addPeriod 115 = .ok (.iconst 1, 1) := by decide +kernel
theorem dX11_addPeriod_116 : decode cX11_addPeriod 116 = .ok (.iadd, 1) := by decide +kernel
theorem dX11_addPeriod_117 : decode cX11_addPeriod 117 = .ok (.iload 4, 2) := by decide +kernel
theorem dX11_addPeriod_119 : decode cX11_addPeriod 119 = .ok (.iastore, 1) := by decide +kernel
theorem dX11_addPeriod_120 : decode cX11_addPeriod 120 = .ok (.aload_n 0, 1) := by decide +kernel
theorem dX11_addPeriod_121 : decode cX11_addPeriod 121 = .ok (.getfield 13, 3) := by decide +kernel
theorem dX11_addPeriod_124 : decode cX11_addPeriod 124 = .ok (.iload 7, 2) := by decide +kernel
theorem dX11_addPeriod_126 : decode cX11_addPeriod 126 = .ok (.iconst 2, 1) := by decide +kernel
theorem dX11_addPeriod_127 : decode cX11_addPeriod 127 = .ok (.iadd, 1) := by decide +kernel
theorem dX11_addPeriod_128 : decode cX11_addPeriod 128 = .ok (.iload 5, 2) := by decide +kernel
theorem dX11_addPeriod_130 : decode cX11_addPeriod 130 = .ok (.iastore, 1) := by decide +kernel
theorem dX11_addPeriod_131 : decode cX11_addPeriod 131 = .ok (.aload_n 0, 1) := by decide +kernel
theorem dX11_addPeriod_132 : decode cX11_addPeriod 132 = .ok (.getfield 13, 3) := by decide +kernel
theorem dX11_addPeriod_135 : decode cX11_addPeriod 135 = .ok (.bipush 42, 2) := by decide +kernel
theorem dX11_addPeriod_137 : decode cX11_addPeriod 137 = .ok (.iload 6, 2) := by decide +kernel
theorem dX11_addPeriod_139 : decode cX11_addPeriod 139 = .ok (.iadd, 1) := by decide +kernel
theorem dX11_addPeriod_140 : decode cX11_addPeriod 140 = .ok (.dup2, 1) := by decide +kernel
theorem dX11_addPeriod_141 : decode cX11_addPeriod 141 = .ok (.iaload, 1) := by decide +kernel
theorem dX11_addPeriod_142 : decode cX11_addPeriod 142 = .ok (.iconst 1, 1) := by decide +kernel
theorem dX11_addPeriod_143 : decode cX11_addPeriod 143 = .ok (.iadd, 1) := by decide +kernel
theorem dX11_addPeriod_144 : decode cX11_addPeriod 144 = .ok (.iastore, 1) := by decide +kernel
theorem dX11_addPeriod_145 : decode cX11_addPeriod 145 = .ok (.aload_n 0, 1) := by decide +kernel
theorem dX11_addPeriod_146 : decode cX11_addPeriod 146 = .ok (.getfield 13, 3) := by decide +kernel
theorem dX11_addPeriod_149 : decode cX11_addPeriod 149 = .ok (.bipush 42, 2) := by decide +kernel
theorem dX11_addPeriod_151 : decode cX11_addPeriod 151 = .ok (.iload 6, 2) := by decide +kernel
theorem dX11_addPeriod_153 : decode cX11_addPeriod 153 = .ok (.iadd, 1) := by decide +kernel
theorem dX11_addPeriod_154 : decode cX11_addPeriod 154 = .ok (.iaload, 1) := by decide +kernel
theorem dX11_addPeriod_155 : decode cX11_addPeriod 155 = .ok (.ireturn, 1) := by decide +kernel
set_option maxRecDepth 20000 in
theorem ggX11_clearSet_X11_isSet : GoodIn wsX11_clearSet wsX11_isSet := goodIn_r _ [6, 7, 8, 5, 9] (by decide +kernel) (by decide +kernel)
set_option maxRecDepth 20000 in
theorem gX11_clearSet_X11_isSet : GoodIn wsX11_clearSet (va_wsS RX11 238 yX11_isSet wsX11_isSet) := goodIn_app (goodIn_of _ (by decide +kernel)) ggX11_clearSet_X11_isSet
set_option maxRecDepth 20000 in
theorem ggX11_clearSet_X11_fails : GoodIn wsX11_clearSet wsX11_fails := goodIn_r _ [13, 1, 20, 21, 22, 23, 24, 25, 26, 27, 28, 29, 30, 31, 32, 33, 34, 35, 36, 37, 38, 39, 40, 41, 42, 43, 44, 45, 46, 47, 48, 49] (by decide +kernel) (by decide +kernel)
set_option maxRecDepth 20000 in
theorem gX11_clearSet_X11_fails : GoodIn wsX11_clearSet (wsV RX11 109 RX11 yX11_fails wsX11_fails) := goodIn_app (goodIn_of _ (by decide +kernel)) ggX11_clearSet_X11_fails
set_option maxRecDepth 20000 in
theorem ggX11_clearSet_X11_keeps : GoodIn wsX11_clearSet wsX11_keeps := goodIn_ca (goodIn_r _ [17, 18, 19, 2, 20, 21, 22, 23, 24, 25, 26, 27, 28, 29, 30, 31, 32, 33, 34, 35, 36, 37, 38, 39, 40, 41, 42, 43, 44, 45, 46, 47, 48, 49] (by decide +kernel) (by decide +kernel)) (goodIn_sub (fun _ h => List.mem_cons_of_mem _ (List.mem_append_right _ h)) (gsub_f _))
set_option maxRecDepth 20000 in
theorem gX11_clearSet_X11_keeps : GoodIn wsX11_clearSet (wsV RX11 123 RX11 yX11_keeps wsX11_keeps) := goodIn_app (goodIn_of _ (by decide +kernel)) ggX11_clearSet_X11_keeps
theorem dX11_clearSet_0 : decode cX11_clearSet 0 = .ok (.aload_n 0, 1) := by decide +kernel
theorem dX11_clearSet_1 : decode cX11_clearSet 1 = .ok (.iconst 0, 1) := by decide +kernel
theorem dX11_clearSet_2 : decode cX11_clearSet 2 = .ok (.putfield 1, 3) := by decide +kernel
theorem dX11_clearSet_5 : decode cX11_clearSet 5 = .ok (.iload_n 1, 1) := by decide +kernel
theorem dX11_clearSet_6 : decode cX11_clearSet 6 = .ok (.invokestatic 238, 3) := by decide +kernel
theorem dX11_clearSet_9 : decode cX11_clearSet 9 = .ok (.ifCond .ne 9, 3) := by decide +kernel
theorem dX11_clearSet_12 : decode cX11_clearSet 12 = .ok (.aload_n 0, 1) := by decide +kernel
theorem dX11_clearSet_13 : decode cX11_clearSet 13 = .ok (.iconst 1, 1) := by decide +kernel
theorem dX11_clearSet_14 : decode cX11_clearSet 14 = .ok (.invokevirtual 109, 3) := by decide +kernel
theorem dX11_clearSet_17 : decode cX11_clearSet 17 = .ok (.ireturn, 1) := by decide +kernel
theorem dX11_clearSet_18 : decode cX11_clearSet 18 = .ok (.aload_n 0, 1) := by decide +kernel
theorem dX11_clearSet_19 : decode cX11_clearSet 19 = .ok (.invokevirtual 123, 3) := by decide +kernel
theorem dX11_clearSet_22 : decode cX11_clearSet 22 = .ok (.aload_n 0, 1) := by decide +kernel
theorem dX11_clearSet_23 : decode cX11_clearSet 23 = .ok (.getfield 13, 3) := by decide +kernel
theorem dX11_clearSet_26 : decode cX11_clearSet 26 = .ok (.bipush 16, 2) := by decide +kernel
theorem dX11_clearSet_28 : decode cX11_clearSet 28 = .ok (.iload_n 1, 1) := by decide +kernel
theorem dX11_clearSet_29 : decode cX11_clearSet 29 = .ok (.iadd, 1) := by decide +kernel
theorem dX11_clearSet_30 : decode cX11_clearSet 30 = .ok (.iaload, 1) := by decide +kernel
theorem dX11_clearSet_31 : decode cX11_clearSet 31 = .ok (.istore_n 2, 1) := by decide +kernel
theorem dX11_clearSet_32 : decode cX11_clearSet 32 = .ok (.aload_n 0, 1) := by decide +kernel
theorem dX11_clearSet_33 : decode cX11_clearSet 33 = .ok (.getfield 13, 3) := by decide +kernel
theorem dX11_clearSet_36 : decode cX11_clearSet 36 = .ok (.bipush 16, 2) := by decide +kernel
theorem dX11_clearSet_38 : decode cX11_clearSet 38 = .ok (.iload_n 1, 1) := by decide +kernel
theorem dX11_clearSet_39 : decode cX11_clearSet 39 = .ok (.iadd, 1) := by decide +kernel
theorem dX11_clearSet_40 : decode cX11_clearSet 40 = .ok (.iconst 0, 1) := by decide +kernel
theorem dX11_clearSet_41 : decode cX11_clearSet 41 = .ok (.iastore, 1) := by decide +kernel
theorem dX11_clearSet_42 : decode cX11_clearSet 42 = .ok (.iload_n 2, 1) := by decide +kernel
theorem dX11_clearSet_43 : decode cX11_clearSet 43 = .ok (.ireturn, 1) := by decide +kernel
set_option maxRecDepth 20000 in
theorem ggX11_isMade_X11_isMade : GoodIn wsX11_isMade wsX11_isMade := goodIn_ca (goodIn_r _ [0, 1, 2, 3, 4, 5, 6, 7, 8, 9, 10, 11, 12, 13, 14, 15, 16, 17, 18, 19, 20, 21, 22, 23, 24, 25, 26, 27, 28, 29, 30, 31, 32, 33, 34, 35] (by decide +kernel) (by decide +kernel)) (goodIn_sub (fun _ h => List.mem_cons_of_mem _ (List.mem_append_right _ h)) (gsub_f _))
set_option maxRecDepth 20000 in
theorem gX11_isMade_X11_isMade : GoodIn wsX11_isMade (wsV RX11 247 RX11 yX11_isMade wsX11_isMade) := goodIn_app (goodIn_of _ (by decide +kernel)) ggX11_isMade_X11_isMade
theorem dX11_isMade_0 : decode cX11_isMade 0 = .ok (.iload_n 3, 1) := by decide +kernel
theorem dX11_isMade_1 : decode cX11_isMade 1 = .ok (.ifCond .lt 13, 3) := by decide +kernel
theorem dX11_isMade_4 : decode cX11_isMade 4 = .ok (.iload 4, 2) := by decide +kernel
theorem dX11_isMade_6 : decode cX11_isMade 6 = .ok (.ifCond .lt 8, 3) := by decide +kernel
theorem dX11_isMade_9 : decode cX11_isMade 9 = .ok (.iload 5, 2) := by decide +kernel
theorem dX11_isMade_11 : decode cX11_isMade 11 = .ok (.ifCond .ge 5, 3) := by decide +kernel
theorem dX11_isMade_14 : decode cX11_isMade 14 = .ok (.iconst 0, 1) := by decide +kernel
theorem dX11_isMade_15 : decode cX11_isMade 15 = .ok (.ireturn, 1) := by decide +kernel
theorem dX11_isMade_16 : decode cX11_isMade 16 = .ok (.iload_n 3, 1) := by decide +kernel
theorem dX11_isMade_17 : decode cX11_isMade 17 = .ok (.iload 4, 2) := by decide +kernel
theorem dX11_isMade_19 : decode cX11_isMade 19 = .ok (.iadd, 1) := by decide +kernel
theorem dX11_isMade_20 : decode cX11_isMade 20 = .ok (.iload 5, 2) := by decide +kernel
theorem dX11_isMade_22 : decode cX11_isMade 22 = .ok (.iadd, 1) := by decide +kernel
theorem dX11_isMade_23 : decode cX11_isMade 23 = .ok (.ifCond .ne 5, 3) := by decide +kernel
theorem dX11_isMade_26 : decode cX11_isMade 26 = .ok (.iconst 1, 1) := by decide +kernel
theorem dX11_isMade_27 : decode cX11_isMade 27 = .ok (.ireturn, 1) := by decide +kernel
theorem dX11_isMade_28 : decode cX11_isMade 28 = .ok (.iload_n 2, 1) := by decide +kernel
theorem dX11_isMade_29 : decode cX11_isMade 29 = .ok (.aload_n 0, 1) := by decide +kernel
theorem dX11_isMade_30 : decode cX11_isMade 30 = .ok (.getfield 13, 3) := by decide +kernel
theorem dX11_isMade_33 : decode cX11_isMade 33 = .ok (.bipush 42, 2) := by decide +kernel
theorem dX11_isMade_35 : decode cX11_isMade 35 = .ok (.iload_n 1, 1) := by decide +kernel
theorem dX11_isMade_36 : decode cX11_isMade 36 = .ok (.iadd, 1) := by decide +kernel
theorem dX11_isMade_37 : decode cX11_isMade 37 = .ok (.iaload, 1) := by decide +kernel
theorem dX11_isMade_38 : decode cX11_isMade 38 = .ok (.if_icmp .ne 5, 3) := by decide +kernel
theorem dX11_isMade_41 : decode cX11_isMade 41 = .ok (.iconst 0, 1) := by decide +kernel
theorem dX11_isMade_42 : decode cX11_isMade 42 = .ok (.ireturn, 1) := by decide +kernel
theorem dX11_isMade_43 : decode cX11_isMade 43 = .ok (.bipush 50, 2) := by decide +kernel
theorem dX11_isMade_45 : decode cX11_isMade 45 = .ok (.bipush 9, 2) := by decide +kernel
theorem dX11_isMade_47 : decode cX11_isMade 47 = .ok (.iload_n 1, 1) := by decide +kernel
theorem dX11_isMade_48 : decode cX11_isMade 48 = .ok (.imul, 1) := by decide +kernel
theorem dX11_isMade_49 : decode cX11_isMade 49 = .ok (.iadd, 1) := by decide +kernel
theorem dX11_isMade_50 : decode cX11_isMade 50 = .ok (.iconst 3, 1) := by decide +kernel
theorem dX11_isMade_51 : decode cX11_isMade 51 = .ok (.iload_n 2, 1) := by decide +kernel
theorem dX11_isMade_52 : decode cX11_isMade 52 = .ok (.imul, 1) := by decide +kernel
theorem dX11_isMade_53 : decode cX11_isMade 53 = .ok (.iadd, 1) := by decide +kernel
theorem dX11_isMade_54 : decode cX11_isMade 54 = .ok (.istore 6, 2) := by decide +kernel
theorem dX11_isMade_56 : decode cX11_isMade 56 = .ok (.aload_n 0, 1) := by decide +kernel
theorem dX11_isMade_57 : decode cX11_isMade 57 = .ok (.iload_n 1, 1) := by decide +kernel
theorem dX11_isMade_58 : decode cX11_isMade 58 = .ok (.iload_n 2, 1) := by decide +kernel
theorem dX11_isMade_59 : decode cX11_isMade 59 = .ok (.iconst 1, 1) := by decide +kernel
theorem dX11_isMade_60 : decode cX11_isMade 60 = .ok (.iadd, 1) := by decide +kernel
theorem dX11_isMade_61 : decode cX11_isMade 61 = .ok (.iload_n 3, 1) := by decide +kernel
theorem dX11_isMade_62 : decode cX11_isMade 62 = .ok (.iload 4, 2) := by decide +kernel
theorem dX11_isMade_64 : decode cX11_isMade 64 = .ok (.iload 5, 2) := by decide +kernel
theorem dX11_isMade_66 : decode cX11_isMade 66 = .ok (.invokevirtual 247, 3) := by decide +kernel
theorem dX11_isMade_69 : decode cX11_isMade 69 = .ok (.ifCond .ne 45, 3) := by decide +kernel
theorem dX11_isMade_72 : decode cX11_isMade 72 = .ok (.aload_n 0, 1) := by decide +kernel
theorem dX11_isMade_73 : decode cX11_isMade 73 = .ok (.iload_n 1, 1) := by decide +kernel
theorem dX11_isMade_74 : decode cX11_isMade 74 = .ok (.iload_n 2, 1) := by decide +kernel
theorem dX11_isMade_75 : decode cX11_isMade 75 = .ok (.iload_n 3, 1) := by decide +kernel
theorem dX11_isMade_76 : decode cX11_isMade 76 = .ok (.aload_n 0, 1) := by decide +kernel
theorem dX11_isMade_77 : decode cX11_isMade 77 = .ok (.getfield 13, 3) := by decide +kernel
theorem dX11_isMade_80 : decode cX11_isMade 80 = .ok (.iload 6, 2) := by decide +kernel
theorem dX11_isMade_82 : decode cX11_isMade 82 = .ok (.iaload, 1) := by decide +kernel
theorem dX11_isMade_83 : decode cX11_isMade 83 = .ok (.isub, 1) := by decide +kernel
theorem dX11_isMade_84 : decode cX11_isMade 84 = .ok (.iload 4, 2) := by decide +kernel
theorem dX11_isMade_86 : decode cX11_isMade 86 = .ok (.aload_n 0, 1) := by decide +kernel
theorem dX11_isMade_87 : decode cX11_isMade 87 = .ok (.getfield 13, 3) := by decide +kernel
theorem dX11_isMade_90 : decode cX11_isMade 90 = .ok (.iload 6, 2) := by decide +kernel
theorem dX11_isMade_92 : decode cX11_isMade 92 = .ok (.iconst 1, 1) := by decide +kernel
theorem dX11_isMade_93 : decode cX11_isMade 93 = .ok (.iadd, 1) := by decide +kernel
theorem dX11_isMade_94 : decode cX11_isMade 94 = .ok (.iaload, 1) := by decide +kernel
theorem dX11_isMade_95 : decode cX11_isMade 95 = .ok (.isub, 1) := by decide +kernel
theorem dX11_isMade_96 : decode cX11_isMade 96 = .ok (.iload 5, 2) := by decide +kernel
theorem dX11_isMade_98 : decode cX11_isMade 98 = .ok (.aload_n 0, 1) := by decide +kernel
theorem dX11_isMade_99 : decode cX11_isMade 99 = .ok (.getfield 13, 3) := by decide +kernel
theorem dX11_isMade_102 : decode cX11_isMade 102 = .ok (.iload 6, 2) := by decide +kernel
theorem dX11_isMade_104 : decode cX11_isMade 104 = .ok (.iconst 2, 1) := by decide +kernel
theorem dX11_isMade_105 : decode cX11_isMade 105 = .ok (.iadd, 1) := by decide +kernel
theorem dX11_isMade_106 : decode cX11_isMade 106 = .ok (.iaload, 1) := by decide +kernel
theorem dX11_isMade_107 : decode cX11_isMade 107 = .ok (.isub, 1) := by decide +kernel
theorem dX11_isMade_108 : decode cX11_isMade 108 = .ok (.invokevirtual 247, 3) := by decide +kernel
theorem dX11_isMade_111 : decode cX11_isMade 111 = .ok (.ifCond .eq 7, 3) := by decide +kernel
theorem dX11_isMade_114 : decode cX11_isMade 114 = .ok (.iconst 1, 1) := by decide +kernel
theorem dX11_isMade_115 : decode cX11_isMade 115 = .ok (.goto 4, 3) := by decide +kernel
theorem dX11_isMade_118 : decode cX11_isMade 118 = .ok (.iconst 0, 1) := by decide +kernel
theorem dX11_isMade_119 : decode cX11_isMade 119 = .ok (.ireturn, 1) := by decide +kernel
set_option maxRecDepth 20000 in
theorem ggX11_isIn_X11_isMade : GoodIn wsX11_isIn wsX11_isMade := goodIn_ca (goodIn_r _ [6, 1, 2, 3, 4, 5, 7, 8, 9, 10, 11, 12, 13, 14, 15, 16, 17, 18, 19, 20, 21, 22, 23, 24, 25, 26, 27, 28, 29, 30, 31, 32, 33, 34, 35, 36] (by decide +kernel) (by decide +kernel)) (goodIn_sub (fun _ h => List.mem_cons_of_mem _ (List.mem_append_right _ h)) (gsub_f _))
set_option maxRecDepth 20000 in
theorem gX11_isIn_X11_isMade : GoodIn wsX11_isIn (wsV RX11 247 RX11 yX11_isMade wsX11_isMade) := goodIn_app (goodIn_of _ (by decide +kernel)) ggX11_isIn_X11_isMade
theorem dX11_isIn_0 : decode cX11_isIn 0 = .ok (.iconst 4, 1) := by decide +kernel
theorem dX11_isIn_1 : decode cX11_isIn 1 = .ok (.iload_n 1, 1) := by decide +kernel
theorem dX11_isIn_2 : decode cX11_isIn 2 = .ok (.imul, 1) := by decide +kernel
theorem dX11_isIn_3 : decode cX11_isIn 3 = .ok (.istore 5, 2) := by decide +kernel
theorem dX11_isIn_5 : decode cX11_isIn 5 = .ok (.iload 5, 2) := by decide +kernel
theorem dX11_isIn_7 : decode cX11_isIn 7 = .ok (.iconst 4, 1) := by decide +kernel
theorem dX11_isIn_8 : decode cX11_isIn 8 = .ok (.iload_n 1, 1) := by decide +kernel
theorem dX11_isIn_9 : decode cX11_isIn 9 = .ok (.imul, 1) := by decide +kernel
theorem dX11_isIn_10 : decode cX11_isIn 10 = .ok (.aload_n 0, 1) := by decide +kernel
theorem dX11_isIn_11 : decode cX11_isIn 11 = .ok (.getfield 13, 3) := by decide +kernel
theorem dX11_isIn_14 : decode cX11_isIn 14 = .ok (.bipush 16, 2) := by decide +kernel
theorem dX11_isIn_16 : decode cX11_isIn 16 = .ok (.iload_n 1, 1) := by decide +kernel
theorem dX11_isIn_17 : decode cX11_isIn 17 = .ok (.iadd, 1) := by decide +kernel
theorem dX11_isIn_18 : decode cX11_isIn 18 = .ok (.iaload, 1) := by decide +kernel
theorem dX11_isIn_19 : decode cX11_isIn 19 = .ok (.iadd, 1) := by decide +kernel
theorem dX11_isIn_20 : decode cX11_isIn 20 = .ok (.if_icmp .ge 68, 3) := by decide +kernel
theorem dX11_isIn_23 : decode cX11_isIn 23 = .ok (.aload_n 0, 1) := by decide +kernel
theorem dX11_isIn_24 : decode cX11_isIn 24 = .ok (.iload 5, 2) := by decide +kernel
theorem dX11_isIn_26 : decode cX11_isIn 26 = .ok (.iconst 0, 1) := by decide +kernel
theorem dX11_isIn_27 : decode cX11_isIn 27 = .ok (.iload_n 2, 1) := by decide +kernel
theorem dX11_isIn_28 : decode cX11_isIn 28 = .ok (.aload_n 0, 1) := by decide +kernel
theorem dX11_isIn_29 : decode cX11_isIn 29 = .ok (.getfield 13, 3) := by decide +kernel
theorem dX11_isIn_32 : decode cX11_isIn 32 = .ok (.bipush 18, 2) := by decide +kernel
theorem dX11_isIn_34 : decode cX11_isIn 34 = .ok (.iconst 3, 1) := by decide +kernel
theorem dX11_isIn_35 : decode cX11_isIn 35 = .ok (.iload 5, 2) := by decide +kernel
theorem dX11_isIn_37 : decode cX11_isIn 37 = .ok (.imul, 1) := by decide +kernel
theorem dX11_isIn_38 : decode cX11_isIn 38 = .ok (.iadd, 1) := by decide +kernel
theorem dX11_isIn_39 : decode cX11_isIn 39 = .ok (.iaload, 1) := by decide +kernel
theorem dX11_isIn_40 : decode cX11_isIn 40 = .ok (.isub, 1) := by decide +kernel
theorem dX11_isIn_41 : decode cX11_isIn 41 = .ok (.iload_n 3, 1) := by decide +kernel
theorem dX11_isIn_42 : decode cX11_isIn 42 = .ok (.aload_n 0, 1) := by decide +kernel
theorem dX11_isIn_43 : decode cX11_isIn 43 = .ok (.getfield 13, 3) := by decide +kernel
theorem dX11_isIn_46 : decode cX11_isIn 46 = .ok (.bipush 18, 2) := by decide +kernel
theorem dX11_isIn_48 : decode cX11_isIn 48 = .ok (.iconst 3, 1) := by decide +kernel
theorem dX11_isIn_49 : decode cX11_isIn 49 = .ok (.iload 5, 2) := by decide +kernel
theorem dX11_isIn_51 : decode cX11_isIn 51 = .ok (.imul, 1) := by decide +kernel
theorem dX11_isIn_52 : decode cX11_isIn 52 = .ok (.iadd, 1) := by decide +kernel
theorem dX11_isIn_53 : decode cX11_isIn 53 = .ok (.iconst 1, 1) := by decide +kernel
theorem dX11_isIn_54 : decode cX11_isIn 54 = .ok (.iadd, 1) := by decide +kernel
theorem dX11_isIn_55 : decode cX11_isIn 55 = .ok (.iaload, 1) := by decide +kernel
theorem dX11_isIn_56 : decode cX11_isIn 56 = .ok (.isub, 1) := by decide +kernel
theorem dX11_isIn_57 : decode cX11_isIn 57 = .ok (.iload 4, 2) := by decide +kernel
theorem dX11_isIn_59 : decode cX11_isIn 59 = .ok (.aload_n 0, 1) := by decide +kernel
theorem dX11_isIn_60 : decode cX11_isIn 60 = .ok (.getfield 13, 3) := by decide +kernel
theorem dX11_isIn_63 : decode cX11_isIn 63 = .ok (.bipush 18, 2) := by decide +kernel
theorem dX11_isIn_65 : decode cX11_isIn 65 = .ok (.iconst 3, 1) := by decide +kernel
theorem dX11_isIn_66 : decode cX11_isIn 66 = .ok (.iload 5, 2) := by decide +kernel
theorem dX11_isIn_68 : decode cX11_isIn 68 = .ok (.imul, 1) := by decide +kernel
theorem dX11_isIn_69 : decode cX11_isIn 69 = .ok (.iadd, 1) := by decide +kernel
theorem dX11_isIn_70 : decode cX11_isIn 70 = .ok (.iconst 2, 1) := by decide +kernel
theorem dX11_isIn_71 : decode cX11_isIn 71 = .ok (.iadd, 1) := by decide +kernel
theorem dX11_isIn_72 : decode cX11_isIn 72 = .ok (.iaload, 1) := by decide +kernel
theorem dX11_isIn_73 : decode cX11_isIn 73 = .ok (.isub, 1) := by decide +kernel
theorem dX11_isIn_74 : decode cX11_isIn 74 = .ok (.invokevirtual 247, 3) := by decide +kernel
theorem dX11_isIn_77 : decode cX11_isIn 77 = .ok (.ifCond .eq 5, 3) := by decide +kernel
theorem dX11_isIn_80 : decode cX11_isIn 80 = .ok (.iconst 1, 1) := by decide +kernel
theorem dX11_isIn_81 : decode cX11_isIn 81 = .ok (.ireturn, 1) := by decide +kernel
theorem dX11_isIn_82 : decode cX11_isIn 82 = .ok (.iinc 5 1, 3) := by decide +kernel
theorem dX11_isIn_85 : decode cX11_isIn 85 = .ok (.goto (-80), 3) := by decide +kernel
theorem dX11_isIn_88 : decode cX11_isIn 88 = .ok (.iconst 0, 1) := by decide +kernel
theorem dX11_isIn_89 : decode cX11_isIn 89 = .ok (.ireturn, 1) := by decide +kernel
set_option maxRecDepth 20000 in
theorem ggX11_contains_X11_isSet : GoodIn wsX11_contains wsX11_isSet := goodIn_r _ [5, 6, 7, 4, 8] (by decide +kernel) (by decide +kernel)
set_option maxRecDepth 20000 in
theorem gX11_contains_X11_isSet : GoodIn wsX11_contains (va_wsS RX11 238 yX11_isSet wsX11_isSet) := goodIn_app (goodIn_of _ (by decide +kernel)) ggX11_contains_X11_isSet
set_option maxRecDepth 20000 in
theorem ggX11_contains_X11_fails : GoodIn wsX11_contains wsX11_fails := goodIn_r _ [12, 1, 25, 26, 27, 28, 29, 30, 31, 32, 33, 34, 35, 36, 37, 38, 39, 40, 41, 42, 43, 44, 45, 46, 47, 48, 49, 50, 51, 52, 53, 54] (by decide +kernel) (by decide +kernel)
set_option maxRecDepth 20000 in
theorem gX11_contains_X11_fails : GoodIn wsX11_contains (wsV RX11 109 RX11 yX11_fails wsX11_fails) := goodIn_app (goodIn_of _ (by decide +kernel)) ggX11_contains_X11_fails
set_option maxRecDepth 20000 in
theorem ggX11_contains_X11_areNine : GoodIn wsX11_contains wsX11_areNine := goodIn_r _ [15, 6, 7, 4, 8] (by decide +kernel) (by decide +kernel)
set_option maxRecDepth 20000 in
theorem gX11_contains_X11_areNine : GoodIn wsX11_contains (va_wsS RX11 241 yX11_areNine wsX11_areNine) := goodIn_app (goodIn_of _ (by decide +kernel)) ggX11_contains_X11_areNine
set_option maxRecDepth 20000 in
theorem ggX11_contains_X11_isIn : GoodIn wsX11_contains wsX11_isIn := goodIn_ca (goodIn_r _ [19, 20, 21, 22, 23, 4, 24, 25, 26, 27, 28, 29, 30, 31, 32, 33, 34, 35, 36, 37, 38, 39, 40, 41, 42, 43, 44, 45, 46, 47, 48, 49, 50, 51, 52, 53, 54] (by decide +kernel) (by decide +kernel)) (goodIn_sub (fun _ h => List.mem_cons_of_mem _ (List.mem_append_right _ h)) (gsub_f _))
set_option maxRecDepth 20000 in
theorem gX11_contains_X11_isIn : GoodIn wsX11_contains (wsV RX11 251 RX11 yX11_isIn wsX11_isIn) := goodIn_app (goodIn_of _ (by decide +kernel)) ggX11_contains_X11_isIn
theorem dX11_contains_0 : decode cX11_contains 0 = .ok (.aload_n 0, 1) := by decide +kernel
theorem dX11_contains_1 : decode cX11_contains 1 = .ok (.iconst 0, 1) := by decide +kernel
theorem dX11_contains_2 : decode cX11_contains 2 = .ok (.putfield 1, 3) := by decide +kernel
theorem dX11_contains_5 : decode cX11_contains 5 = .ok (.iload_n 1, 1) := by decide +kernel
theorem dX11_contains_6 : decode cX11_contains 6 = .ok (.invokestatic 238, 3) := by decide +kernel
theorem dX11_contains_9 : decode cX11_contains 9 = .ok (.ifCond .ne 17, 3) := by decide +kernel
theorem dX11_contains_12 : decode cX11_contains 12 = .ok (.aload_n 0, 1) := by decide +kernel
theorem dX11_contains_13 : decode cX11_contains 13 = .ok (.iconst 1, 1) := by decide +kernel
theorem dX11_contains_14 : decode cX11_contains 14 = .ok (.invokevirtual 109, 3) := by decide +kernel
theorem dX11_contains_17 : decode cX11_contains 17 = .ok (.ifCond .le 7, 3) := by decide +kernel
theorem dX11_contains_20 : decode cX11_contains 20 = .ok (.iconst 1, 1) := by decide +kernel
theorem dX11_contains_21 : decode cX11_contains 21 = .ok (.goto 4, 3) := by decide +kernel
theorem dX11_contains_24 : decode cX11_contains 24 = .ok (.iconst 0, 1) := by decide +kernel
theorem dX11_contains_25 : decode cX11_contains 25 = .ok (.ireturn, 1) := by decide +kernel
theorem dX11_contains_26 : decode cX11_contains 26 = .ok (.iload_n 2, 1) := by decide +kernel
theorem dX11_contains_27 : decode cX11_contains 27 = .ok (.iload_n 3, 1) := by decide +kernel
theorem dX11_contains_28 : decode cX11_contains 28 = .ok (.iload 4, 2) := by decide +kernel
theorem dX11_contains_30 : decode cX11_contains 30 = .ok (.invokestatic 241, 3) := by decide +kernel
theorem dX11_contains_33 : decode cX11_contains 33 = .ok (.ifCond .eq 15, 3) := by decide +kernel
theorem dX11_contains_36 : decode cX11_contains 36 = .ok (.aload_n 0, 1) := by decide +kernel
theorem dX11_contains_37 : decode cX11_contains 37 = .ok (.iload_n 1, 1) := by decide +kernel
theorem dX11_contains_38 : decode cX11_contains 38 = .ok (.iload_n 2, 1) := by decide +kernel
theorem dX11_contains_39 : decode cX11_contains 39 = .ok (.iload_n 3, 1) := by decide +kernel
theorem dX11_contains_40 : decode cX11_contains 40 = .ok (.iload 4, 2) := by decide +kernel
theorem dX11_contains_42 : decode cX11_contains 42 = .ok (.invokevirtual 251, 3) := by decide +kernel
theorem dX11_contains_45 : decode cX11_contains 45 = .ok (.goto 16, 3) := by decide +kernel
theorem dX11_contains_48 : decode cX11_contains 48 = .ok (.aload_n 0, 1) := by decide +kernel
theorem dX11_contains_49 : decode cX11_contains 49 = .ok (.iconst 2, 1) := by decide +kernel
theorem dX11_contains_50 : decode cX11_contains 50 = .ok (.invokevirtual 109, 3) := by decide +kernel
theorem dX11_contains_53 : decode cX11_contains 53 = .ok (.ifCond .le 7, 3) := by decide +kernel
theorem dX11_contains_56 : decode cX11_contains 56 = .ok (.iconst 1, 1) := by decide +kernel
theorem dX11_contains_57 : decode cX11_contains 57 = .ok (.goto 4, 3) := by decide +kernel
theorem dX11_contains_60 : decode cX11_contains 60 = .ok (.iconst 0, 1) := by decide +kernel
theorem dX11_contains_61 : decode cX11_contains 61 = .ok (.ireturn, 1) := by decide +kernel
set_option maxRecDepth 20000 in
theorem ggX11_elements_X11_isSet : GoodIn wsX11_elements wsX11_isSet := goodIn_r _ [5, 6, 7, 4, 8] (by decide +kernel) (by decide +kernel)
set_option maxRecDepth 20000 in
theorem gX11_elements_X11_isSet : GoodIn wsX11_elements (va_wsS RX11 238 yX11_isSet wsX11_isSet) := goodIn_app (goodIn_of _ (by decide +kernel)) ggX11_elements_X11_isSet
set_option maxRecDepth 20000 in
theorem ggX11_elements_X11_fails : GoodIn wsX11_elements wsX11_fails := goodIn_r _ [12, 1, 22, 23, 24, 25, 26, 27, 28, 29, 30, 31, 32, 33, 34, 35, 36, 37, 38, 39, 40, 41, 42, 43, 44, 45, 46, 47, 48, 49, 50, 51] (by decide +kernel) (by decide +kernel)
set_option maxRecDepth 20000 in
theorem gX11_elements_X11_fails : GoodIn wsX11_elements (wsV RX11 109 RX11 yX11_fails wsX11_fails) := goodIn_app (goodIn_of _ (by decide +kernel)) ggX11_elements_X11_fails
set_option maxRecDepth 20000 in
theorem ggX11_elements_X11_in : GoodIn wsX11_elements wsX11_in := goodIn_r _ [8] (by decide +kernel) (by decide +kernel)
set_option maxRecDepth 20000 in
theorem gX11_elements_X11_in : GoodIn wsX11_elements (va_wsS RX11 105 yX11_in wsX11_in) := goodIn_app (goodIn_of _ (by decide +kernel)) ggX11_elements_X11_in
set_option maxRecDepth 20000 in
theorem ggX11_elements_X11_isIn : GoodIn wsX11_elements wsX11_isIn := goodIn_ca (goodIn_r _ [16, 17, 18, 19, 20, 4, 21, 22, 23, 24, 25, 26, 27, 28, 29, 30, 31, 32, 33, 34, 35, 36, 37, 38, 39, 40, 41, 42, 43, 44, 45, 46, 47, 48, 49, 50, 51] (by decide +kernel) (by decide +kernel)) (goodIn_sub (fun _ h => List.mem_cons_of_mem _ (List.mem_append_right _ h)) (gsub_f _))
set_option maxRecDepth 20000 in
theorem gX11_elements_X11_isIn : GoodIn wsX11_elements (wsV RX11 251 RX11 yX11_isIn wsX11_isIn) := goodIn_app (goodIn_of _ (by decide +kernel)) ggX11_elements_X11_isIn
theorem dX11_elements_0 : decode cX11_elements 0 = .ok (.aload_n 0, 1) := by decide +kernel
theorem dX11_elements_1 : decode cX11_elements 1 = .ok (.iconst 0, 1) := by decide +kernel
theorem dX11_elements_2 : decode cX11_elements 2 = .ok (.putfield 1, 3) := by decide +kernel
theorem dX11_elements_5 : decode cX11_elements 5 = .ok (.iload_n 1, 1) := by decide +kernel
theorem dX11_elements_6 : decode cX11_elements 6 = .ok (.invokestatic 238, 3) := by decide +kernel
theorem dX11_elements_9 : decode cX11_elements 9 = .ok (.ifCond .ne 9, 3) := by decide +kernel
theorem dX11_elements_12 : decode cX11_elements 12 = .ok (.aload_n 0, 1) := by decide +kernel
theorem dX11_elements_13 : decode cX11_elements 13 = .ok (.iconst 1, 1) := by decide +kernel
theorem dX11_elements_14 : decode cX11_elements 14 = .ok (.invokevirtual 109, 3) := by decide +kernel
theorem dX11_elements_17 : decode cX11_elements 17 = .ok (.ireturn, 1) := by decide +kernel
theorem dX11_elements_18 : decode cX11_elements 18 = .ok (.iload_n 2, 1) := by decide +kernel
theorem dX11_elements_19 : decode cX11_elements 19 = .ok (.iconst 0, 1) := by decide +kernel
theorem dX11_elements_20 : decode cX11_elements 20 = .ok (.bipush 6, 2) := by decide +kernel
theorem dX11_elements_22 : decode cX11_elements 22 = .ok (.invokestatic 105, 3) := by decide +kernel
theorem dX11_elements_25 : decode cX11_elements 25 = .ok (.ifCond .ne 9, 3) := by decide +kernel
theorem dX11_elements_28 : decode cX11_elements 28 = .ok (.aload_n 0, 1) := by decide +kernel
theorem dX11_elements_29 : decode cX11_elements 29 = .ok (.iconst 2, 1) := by decide +kernel
theorem dX11_elements_30 : decode cX11_elements 30 = .ok (.invokevirtual 109, 3) := by decide +kernel
theorem dX11_elements_33 : decode cX11_elements 33 = .ok (.ireturn, 1) := by decide +kernel
theorem dX11_elements_34 : decode cX11_elements 34 = .ok (.iconst 0, 1) := by decide +kernel
theorem dX11_elements_35 : decode cX11_elements 35 = .ok (.istore_n 3, 1) := by decide +kernel
theorem dX11_elements_36 : decode cX11_elements 36 = .ok (.iconst 0, 1) := by decide +kernel
theorem dX11_elements_37 : decode cX11_elements 37 = .ok (.istore 4, 2) := by decide +kernel
theorem dX11_elements_39 : decode cX11_elements 39 = .ok (.iload 4, 2) := by decide +kernel
theorem dX11_elements_41 : decode cX11_elements 41 = .ok (.iload_n 2, 1) := by decide +kernel
theorem dX11_elements_42 : decode cX11_elements 42 = .ok (.if_icmp .gt 61, 3) := by decide +kernel
theorem dX11_elements_45 : decode cX11_elements 45 = .ok (.iconst 0, 1) := by decide +kernel
theorem dX11_elements_46 : decode cX11_elements 46 = .ok (.istore 5, 2) := by decide +kernel
theorem dX11_elements_48 : decode cX11_elements 48 = .ok (.iload 5, 2) := by decide +kernel
theorem dX11_elements_50 : decode cX11_elements 50 = .ok (.iload_n 2, 1) := by decide +kernel
theorem dX11_elements_51 : decode cX11_elements 51 = .ok (.if_icmp .gt 46, 3) := by decide +kernel
theorem dX11_elements_54 : decode cX11_elements 54 = .ok (.iconst 0, 1) := by decide +kernel
theorem dX11_elements_55 : decode cX11_elements 55 = .ok (.istore 6, 2) := by decide +kernel
theorem dX11_elements_57 : decode cX11_elements 57 = .ok (.iload 6, 2) := by decide +kernel
theorem dX11_elements_59 : decode cX11_elements 59 = .ok (.iload_n 2, 1) := by decide +kernel
theorem dX11_elements_60 : decode cX11_elements 60 = .ok (.if_icmp .gt 31, 3) := by decide +kernel
theorem dX11_elements_63 : decode cX11_elements 63 = .ok (.iload_n 3, 1) := by decide +kernel
theorem dX11_elements_64 : decode cX11_elements 64 = .ok (.aload_n 0, 1) := by decide +kernel
theorem dX11_elements_65 : decode cX11_elements 65 = .ok (.iload_n 1, 1) := by decide +kernel
theorem dX11_elements_66 : decode cX11_elements 66 = .ok (.iload 4, 2) := by decide +kernel
theorem dX11_elements_68 : decode cX11_elements 68 = .ok (.iload 5, 2) := by decide +kernel
theorem dX11_elements_70 : decode cX11_elements 70 = .ok (.iload 6, 2) := by decide +kernel
theorem dX11_elements_72 : decode cX11_elements 72 = .ok (.invokevirtual 251, 3) := by decide +kernel
theorem dX11_elements_75 : decode cX11_elements 75 = .ok (.ifCond .eq 7, 3) := by decide +kernel
theorem dX11_elements_78 : decode cX11_elements 78 = .ok (.iconst 1, 1) := by decide +kernel
theorem dX11_elements_79 : decode cX11_elements 79 = .ok (.goto 4, 3) := by decide +kernel
theorem dX11_elements_82 : decode cX11_elements 82 = .ok (.iconst 0, 1) := by decide +kernel
theorem dX11_elements_83 : decode cX11_elements 83 = .ok (.iadd, 1) := by decide +kernel
theorem dX11_elements_84 : decode cX11_elements 84 = .ok (.istore_n 3, 1) := by decide +kernel
theorem dX11_elements_85 : decode cX11_elements 85 = .ok (.iinc 6 1, 3) := by decide +kernel
theorem dX11_elements_88 : decode cX11_elements 88 = .ok (.goto (-31), 3) := by decide +kernel
theorem dX11_elements_91 : decode cX11_elements 91 = .ok (.iinc 5 1, 3) := by decide +kernel
theorem dX11_elements_94 : decode cX11_elements 94 = .ok (.goto (-46), 3) := by decide +kernel
theorem dX11_elements_97 : decode cX11_elements 97 = .ok (.iinc 4 1, 3) := by decide +kernel
theorem dX11_elements_100 : decode cX11_elements 100 = .ok (.goto (-61), 3) := by decide +kernel
theorem dX11_elements_103 : decode cX11_elements 103 = .ok (.iload_n 3, 1) := by decide +kernel
theorem dX11_elements_104 : decode cX11_elements 104 = .ok (.ireturn, 1) := by decide +kernel
set_option maxRecDepth 20000 in
theorem ggX11_reachedCounts_X11_in : GoodIn wsX11_reachedCounts wsX11_in := goodIn_r _ [5] (by decide +kernel) (by decide +kernel)
set_option maxRecDepth 20000 in
theorem gX11_reachedCounts_X11_in : GoodIn wsX11_reachedCounts (va_wsS RX11 105 yX11_in wsX11_in) := goodIn_app (goodIn_r _ [2, 3, 4] (by decide +kernel) (by decide +kernel)) ggX11_reachedCounts_X11_in
set_option maxRecDepth 20000 in
theorem ggX11_reachedCounts_X11_fails : GoodIn wsX11_reachedCounts wsX11_fails := goodIn_r _ [9, 1, 34, 35, 36, 37, 38, 39, 40, 41, 42, 43, 44, 45, 46, 47, 48, 49, 50, 51, 52, 53, 54, 55, 56, 57, 58, 59, 60, 61, 62, 63] (by decide +kernel) (by decide +kernel)
set_option maxRecDepth 20000 in
theorem gX11_reachedCounts_X11_fails : GoodIn wsX11_reachedCounts (wsV RX11 109 RX11 yX11_fails wsX11_fails) := goodIn_app (goodIn_r _ [6, 7, 8, 4] (by decide +kernel) (by decide +kernel)) ggX11_reachedCounts_X11_fails
set_option maxRecDepth 20000 in
theorem ggX11_reachedCounts_X11_layReached : GoodIn wsX11_reachedCounts wsX11_layReached := goodIn_ca (goodIn_r _ [13, 14, 15, 16, 4, 17, 18, 19, 20, 21, 22, 23, 24, 25, 26, 27, 28, 29, 34, 35, 36, 37, 38, 39, 40, 41, 42, 43, 44, 45, 46, 47, 48, 49, 50, 51, 52, 53, 54, 55, 56, 57, 58, 59, 60, 61, 62, 63] (by decide +kernel) (by decide +kernel)) (goodIn_sub (fun _ h => List.mem_cons_of_mem _ (List.mem_append_right _ h)) (gsub_f _))
set_option maxRecDepth 20000 in
theorem gX11_reachedCounts_X11_layReached : GoodIn wsX11_reachedCounts (wsV RX11 178 RX11 yX11_layReached wsX11_layReached) := goodIn_app (goodIn_r _ [10, 11, 12, 4] (by decide +kernel) (by decide +kernel)) ggX11_reachedCounts_X11_layReached
set_option maxRecDepth 20000 in
theorem ggX11_reachedCounts_X11_isReached : GoodIn wsX11_reachedCounts wsX11_isReached := goodIn_ca (goodIn_r _ [33, 14, 29, 15, 16, 4, 17, 34, 35, 36, 37, 38, 39, 40, 41, 42, 43, 44, 45, 46, 47, 48, 49, 50, 51, 52, 53, 54, 55, 56, 57, 58, 59, 60, 61, 62, 63] (by decide +kernel) (by decide +kernel)) (goodIn_sub (fun _ h => List.mem_cons_of_mem _ (List.mem_append_right _ h)) (gsub_f _))
set_option maxRecDepth 20000 in
theorem gX11_reachedCounts_X11_isReached : GoodIn wsX11_reachedCounts (wsV RX11 154 RX11 yX11_isReached wsX11_isReached) := goodIn_app (goodIn_r _ [30, 31, 32, 4] (by decide +kernel) (by decide +kernel)) ggX11_reachedCounts_X11_isReached
theorem dX11_reachedCounts_0 : decode cX11_reachedCounts 0 = .ok (.aload_n 0, 1) := by decide +kernel
theorem dX11_reachedCounts_1 : decode cX11_reachedCounts 1 = .ok (.iconst 0, 1) := by decide +kernel
theorem dX11_reachedCounts_2 : decode cX11_reachedCounts 2 = .ok (.putfield 1, 3) := by decide +kernel
theorem dX11_reachedCounts_5 : decode cX11_reachedCounts 5 = .ok (.iload_n 1, 1) := by decide +kernel
theorem dX11_reachedCounts_6 : decode cX11_reachedCounts 6 = .ok (.iconst 0, 1) := by decide +kernel
theorem dX11_reachedCounts_7 : decode cX11_reachedCounts 7 = .ok (.bipush 6, 2) := by decide +kernel
theorem dX11_reachedCounts_9 : decode cX11_reachedCounts 9 = .ok (.invokestatic 105, 3) := by decide +kernel
theorem dX11_reachedCounts_12 : decode cX11_reachedCounts 12 = .ok (.ifCond .ne 9, 3) := by decide +kernel
theorem dX11_reachedCounts_15 : decode cX11_reachedCounts 15 = .ok (.aload_n 0, 1) := by decide +kernel
theorem dX11_reachedCounts_16 : decode cX11_reachedCounts 16 = .ok (.iconst 1, 1) := by decide +kernel
theorem dX11_reachedCounts_17 : decode cX11_reachedCounts 17 = .ok (.invokevirtual 109, 3) := by decide +kernel
theorem dX11_reachedCounts_20 : decode cX11_reachedCounts 20 = .ok (.ireturn, 1) := by decide +kernel
theorem dX11_reachedCounts_21 : decode cX11_reachedCounts 21 = .ok (.aload_n 0, 1) := by decide +kernel
theorem dX11_reachedCounts_22 : decode cX11_reachedCounts 22 = .ok (.invokevirtual 178, 3) := by decide +kernel
theorem dX11_reachedCounts_25 : decode cX11_reachedCounts 25 = .ok (.iconst 0, 1) := by decide +kernel
theorem dX11_reachedCounts_26 : decode cX11_reachedCounts 26 = .ok (.istore_n 2, 1) := by decide +kernel
theorem dX11_reachedCounts_27 : decode cX11_reachedCounts 27 = .ok (.iconst 0, 1) := by decide +kernel
theorem dX11_reachedCounts_28 : decode cX11_reachedCounts 28 = .ok (.istore_n 3, 1) := by decide +kernel
theorem dX11_reachedCounts_29 : decode cX11_reachedCounts 29 = .ok (.iload_n 3, 1) := by decide +kernel
theorem dX11_reachedCounts_30 : decode cX11_reachedCounts 30 = .ok (.iload_n 1, 1) := by decide +kernel
theorem dX11_reachedCounts_31 : decode cX11_reachedCounts 31 = .ok (.if_icmp .gt 59, 3) := by decide +kernel
theorem dX11_reachedCounts_34 : decode cX11_reachedCounts 34 = .ok (.iconst 0, 1) := by decide +kernel
theorem dX11_reachedCounts_35 : decode cX11_reachedCounts 35 = .ok (.istore 4, 2) := by decide +kernel
theorem dX11_reachedCounts_37 : decode cX11_reachedCounts 37 = .ok (.iload 4, 2) := by decide +kernel
theorem dX11_reachedCounts_39 : decode cX11_reachedCounts 39 = .ok (.iload_n 1, 1) := by decide +kernel
theorem dX11_reachedCounts_40 : decode cX11_reachedCounts 40 = .ok (.if_icmp .gt 44, 3) := by decide +kernel
theorem dX11_reachedCounts_43 : decode cX11_reachedCounts 43 = .ok (.iconst 0, 1) := by decide +kernel
theorem dX11_reachedCounts_44 : decode cX11_reachedCounts 44 = .ok (.istore 5, 2) := by decide +kernel
theorem dX11_reachedCounts_46 : decode cX11_reachedCounts 46 = .ok (.iload 5, 2) := by decide +kernel
theorem dX11_reachedCounts_48 : decode cX11_reachedCounts 48 = .ok (.iload_n 1, 1) := by decide +kernel
theorem dX11_reachedCounts_49 : decode cX11_reachedCounts 49 = .ok (.if_icmp .gt 29, 3) := by decide +kernel
theorem dX11_reachedCounts_52 : decode cX11_reachedCounts 52 = .ok (.iload_n 2, 1) := by decide +kernel
theorem dX11_reachedCounts_53 : decode cX11_reachedCounts 53 = .ok (.aload_n 0, 1) := by decide +kernel
theorem dX11_reachedCounts_54 : decode cX11_reachedCounts 54 = .ok (.iload_n 3, 1) := by decide +kernel
theorem dX11_reachedCounts_55 : decode cX11_reachedCounts 55 = .ok (.iload 4, 2) := by decide +kernel
theorem dX11_reachedCounts_57 : decode cX11_reachedCounts 57 = .ok (.iload 5, 2) := by decide +kernel
theorem dX11_reachedCounts_59 : decode cX11_reachedCounts 59 = .ok (.invokevirtual 154, 3) := by decide +kernel
theorem dX11_reachedCounts_62 : decode cX11_reachedCounts 62 = .ok (.ifCond .eq 7, 3) := by decide +kernel
theorem dX11_reachedCounts_65 : decode cX11_reachedCounts 65 = .ok (.iconst 1, 1) := by decide +kernel
theorem dX11_reachedCounts_66 : decode cX11_reachedCounts 66 = .ok (.goto 4, 3) := by decide +kernel
theorem dX11_reachedCounts_69 : decode cX11_reachedCounts 69 = .ok (.iconst 0, 1) := by decide +kernel
theorem dX11_reachedCounts_70 : decode cX11_reachedCounts 70 = .ok (.iadd, 1) := by decide +kernel
theorem dX11_reachedCounts_71 : decode cX11_reachedCounts 71 = .ok (.istore_n 2, 1) := by decide +kernel
theorem dX11_reachedCounts_72 : decode cX11_reachedCounts 72 = .ok (.iinc 5 1, 3) := by decide +kernel
theorem dX11_reachedCounts_75 : decode cX11_reachedCounts 75 = .ok (.goto (-29), 3) := by decide +kernel
theorem dX11_reachedCounts_78 : decode cX11_reachedCounts 78 = .ok (.iinc 4 1, 3) := by decide +kernel
theorem dX11_reachedCounts_81 : decode cX11_reachedCounts 81 = .ok (.goto (-44), 3) := by decide +kernel
theorem dX11_reachedCounts_84 : decode cX11_reachedCounts 84 = .ok (.iinc 3 1, 3) := by decide +kernel
theorem dX11_reachedCounts_87 : decode cX11_reachedCounts 87 = .ok (.goto (-58), 3) := by decide +kernel
theorem dX11_reachedCounts_90 : decode cX11_reachedCounts 90 = .ok (.iload_n 2, 1) := by decide +kernel
theorem dX11_reachedCounts_91 : decode cX11_reachedCounts 91 = .ok (.ireturn, 1) := by decide +kernel
set_option maxRecDepth 20000 in
theorem ggX11_firstUnlike_X11_isSet : GoodIn wsX11_firstUnlike wsX11_isSet := goodIn_r _ [5, 6, 7, 4, 8] (by decide +kernel) (by decide +kernel)
set_option maxRecDepth 20000 in
theorem gX11_firstUnlike_X11_isSet : GoodIn wsX11_firstUnlike (va_wsS RX11 238 yX11_isSet wsX11_isSet) := goodIn_app (goodIn_r _ [2, 3, 4] (by decide +kernel) (by decide +kernel)) ggX11_firstUnlike_X11_isSet
set_option maxRecDepth 20000 in
theorem ggX11_firstUnlike_X11_fails : GoodIn wsX11_firstUnlike wsX11_fails := goodIn_r _ [12, 1, 45, 46, 47, 48, 49, 50, 51, 52, 53, 54, 55, 56, 57, 58, 59, 60, 61, 62, 63, 64, 65, 66, 67, 68, 69, 70, 71, 72, 73, 74] (by decide +kernel) (by decide +kernel)
set_option maxRecDepth 20000 in
theorem gX11_firstUnlike_X11_fails : GoodIn wsX11_firstUnlike (wsV RX11 109 RX11 yX11_fails wsX11_fails) := goodIn_app (goodIn_r _ [9, 10, 11, 4] (by decide +kernel) (by decide +kernel)) ggX11_firstUnlike_X11_fails
set_option maxRecDepth 20000 in
theorem ggX11_firstUnlike_X11_in : GoodIn wsX11_firstUnlike wsX11_in := goodIn_r _ [8] (by decide +kernel) (by decide +kernel)
set_option maxRecDepth 20000 in
theorem gX11_firstUnlike_X11_in : GoodIn wsX11_firstUnlike (va_wsS RX11 105 yX11_in wsX11_in) := goodIn_app (goodIn_r _ [6, 7, 4] (by decide +kernel) (by decide +kernel)) ggX11_firstUnlike_X11_in
set_option maxRecDepth 20000 in
theorem ggX11_firstUnlike_X11_layReached : GoodIn wsX11_firstUnlike wsX11_layReached := goodIn_ca (goodIn_r _ [16, 17, 18, 19, 4, 20, 21, 22, 23, 24, 25, 26, 27, 28, 29, 30, 31, 32, 45, 46, 47, 48, 49, 50, 51, 52, 53, 54, 55, 56, 57, 58, 59, 60, 61, 62, 63, 64, 65, 66, 67, 68, 69, 70, 71, 72, 73, 74] (by decide +kernel) (by decide +kernel)) (goodIn_sub (fun _ h => List.mem_cons_of_mem _ (List.mem_append_right _ h)) (gsub_f _))
set_option maxRecDepth 20000 in
theorem gX11_firstUnlike_X11_layReached : GoodIn wsX11_firstUnlike (wsV RX11 178 RX11 yX11_layReached wsX11_layReached) := goodIn_app (goodIn_r _ [13, 14, 15, 4] (by decide +kernel) (by decide +kernel)) ggX11_firstUnlike_X11_layReached
set_option maxRecDepth 20000 in
theorem ggX11_firstUnlike_X11_isReached : GoodIn wsX11_firstUnlike wsX11_isReached := goodIn_ca (goodIn_r _ [36, 17, 32, 18, 19, 4, 20, 45, 46, 47, 48, 49, 50, 51, 52, 53, 54, 55, 56, 57, 58, 59, 60, 61, 62, 63, 64, 65, 66, 67, 68, 69, 70, 71, 72, 73, 74] (by decide +kernel) (by decide +kernel)) (goodIn_sub (fun _ h => List.mem_cons_of_mem _ (List.mem_append_right _ h)) (gsub_f _))
set_option maxRecDepth 20000 in
theorem gX11_firstUnlike_X11_isReached : GoodIn wsX11_firstUnlike (wsV RX11 154 RX11 yX11_isReached wsX11_isReached) := goodIn_app (goodIn_r _ [33, 34, 35, 4] (by decide +kernel) (by decide +kernel)) ggX11_firstUnlike_X11_isReached
set_option maxRecDepth 20000 in
theorem ggX11_firstUnlike_X11_isIn : GoodIn wsX11_firstUnlike wsX11_isIn := goodIn_ca (goodIn_r _ [40, 32, 41, 42, 43, 4, 44, 45, 46, 47, 48, 49, 50, 51, 52, 53, 54, 55, 56, 57, 58, 59, 60, 61, 62, 63, 64, 65, 66, 67, 68, 69, 70, 71, 72, 73, 74] (by decide +kernel) (by decide +kernel)) (goodIn_sub (fun _ h => List.mem_cons_of_mem _ (List.mem_append_right _ h)) (gsub_f _))
set_option maxRecDepth 20000 in
theorem gX11_firstUnlike_X11_isIn : GoodIn wsX11_firstUnlike (wsV RX11 251 RX11 yX11_isIn wsX11_isIn) := goodIn_app (goodIn_r _ [37, 38, 39, 4] (by decide +kernel) (by decide +kernel)) ggX11_firstUnlike_X11_isIn
theorem dX11_firstUnlike_0 : decode cX11_firstUnlike 0 = .ok (.aload_n 0, 1) := by decide +kernel
theorem dX11_firstUnlike_1 : decode cX11_firstUnlike 1 = .ok (.iconst 0, 1) := by decide +kernel
theorem dX11_firstUnlike_2 : decode cX11_firstUnlike 2 = .ok (.putfield 1, 3) := by decide +kernel
theorem dX11_firstUnlike_5 : decode cX11_firstUnlike 5 = .ok (.iload_n 1, 1) := by decide +kernel
theorem dX11_firstUnlike_6 : decode cX11_firstUnlike 6 = .ok (.invokestatic 238, 3) := by decide +kernel
theorem dX11_firstUnlike_9 : decode cX11_firstUnlike 9 = .ok (.ifCond .ne 9, 3) := by decide +kernel
theorem dX11_firstUnlike_12 : decode cX11_firstUnlike 12 = .ok (.aload_n 0, 1) := by decide +kernel
theorem dX11_firstUnlike_13 : decode cX11_firstUnlike 13 = .ok (.iconst 1, 1) := by decide +kernel
theorem dX11_firstUnlike_14 : decode cX11_firstUnlike 14 = .ok (.invokevirtual 109, 3) := by decide +kernel
theorem dX11_firstUnlike_17 : decode cX11_firstUnlike 17 = .ok (.ireturn, 1) := by decide +kernel
theorem dX11_firstUnlike_18 : decode cX11_firstUnlike 18 = .ok (.iload_n 2, 1) := by decide +kernel
theorem dX11_firstUnlike_19 : decode cX11_firstUnlike 19 = .ok (.iconst 0, 1) := by decide +kernel
theorem dX11_firstUnlike_20 : decode cX11_firstUnlike 20 = .ok (.bipush 6, 2) := by decide +kernel
theorem dX11_firstUnlike_22 : decode cX11_firstUnlike 22 = .ok (.invokestatic 105, 3) := by decide +kernel
theorem dX11_firstUnlike_25 : decode cX11_firstUnlike 25 = .ok (.ifCond .ne 9, 3) := by decide +kernel
theorem dX11_firstUnlike_28 : decode cX11_firstUnlike 28 = .ok (.aload_n 0, 1) := by decide +kernel
theorem dX11_firstUnlike_29 : decode cX11_firstUnlike 29 = .ok (.iconst 2, 1) := by decide +kernel
theorem dX11_firstUnlike_30 : decode cX11_firstUnlike 30 = .ok (.invokevirtual 109, 3) := by decide +kernel
theorem dX11_firstUnlike_33 : decode cX11_firstUnlike 33 = .ok (.ireturn, 1) := by decide +kernel
theorem dX11_firstUnlike_34 : decode cX11_firstUnlike 34 = .ok (.aload_n 0, 1) := by decide +kernel
theorem dX11_firstUnlike_35 : decode cX11_firstUnlike 35 = .ok (.invokevirtual 178, 3) := by decide +kernel
theorem dX11_firstUnlike_38 : decode cX11_firstUnlike 38 = .ok (.iconst 0, 1) := by decide +kernel
theorem dX11_firstUnlike_39 : decode cX11_firstUnlike 39 = .ok (.istore 4, 2) := by decide +kernel
theorem dX11_firstUnlike_41 : decode cX11_firstUnlike 41 = .ok (.iload 4, 2) := by decide +kernel
theorem dX11_firstUnlike_43 : decode cX11_firstUnlike 43 = .ok (.iconst 3, 1) := by decide +kernel
theorem dX11_firstUnlike_44 : decode cX11_firstUnlike 44 = .ok (.iload_n 2, 1) := by decide +kernel
theorem dX11_firstUnlike_45 : decode cX11_firstUnlike 45 = .ok (.imul, 1) := by decide +kernel
theorem dX11_firstUnlike_46 : decode cX11_firstUnlike 46 = .ok (.if_icmp .gt 103, 3) := by decide +kernel
theorem dX11_firstUnlike_49 : decode cX11_firstUnlike 49 = .ok (.iconst 0, 1) := by decide +kernel
theorem dX11_firstUnlike_50 : decode cX11_firstUnlike 50 = .ok (.istore 5, 2) := by decide +kernel
theorem dX11_firstUnlike_52 : decode cX11_firstUnlike 52 = .ok (.iload 5, 2) := by decide +kernel
theorem dX11_firstUnlike_54 : decode cX11_firstUnlike 54 = .ok (.iload_n 2, 1) := by decide +kernel
theorem dX11_firstUnlike_55 : decode cX11_firstUnlike 55 = .ok (.if_icmp .gt 88, 3) := by decide +kernel
theorem dX11_firstUnlike_58 : decode cX11_firstUnlike 58 = .ok (.iconst 0, 1) := by decide +kernel
theorem dX11_firstUnlike_59 : decode cX11_firstUnlike 59 = .ok (.istore 6, 2) := by decide +kernel
theorem dX11_firstUnlike_61 : decode cX11_firstUnlike 61 = .ok (.iload 6, 2) := by decide +kernel
theorem dX11_firstUnlike_63 : decode cX11_firstUnlike 63 = .ok (.iload_n 2, 1) := by decide +kernel
theorem dX11_firstUnlike_64 : decode cX11_firstUnlike 64 = .ok (.if_icmp .gt 73, 3) := by decide +kernel
theorem dX11_firstUnlike_67 : decode cX11_firstUnlike 67 = .ok (.iload 4, 2) := by decide +kernel
theorem dX11_firstUnlike_69 : decode cX11_firstUnlike 69 = .ok (.iload 5, 2) := by decide +kernel
theorem dX11_firstUnlike_71 : decode cX11_firstUnlike 71 = .ok (.isub, 1) := by decide +kernel
theorem dX11_firstUnlike_72 : decode cX11_firstUnlike 72 = .ok (.iload 6, 2) := by decide +kernel
theorem dX11_firstUnlike_74 : decode cX11_firstUnlike 74 = .ok (.isub, 1) := by decide +kernel
theorem dX11_firstUnlike_75 : decode cX11_firstUnlike 75 = .ok (.istore 7, 2) := by decide +kernel
theorem dX11_firstUnlike_77 : decode cX11_firstUnlike 77 = .ok (.iload 7, 2) := by decide +kernel
theorem dX11_firstUnlike_79 : decode cX11_firstUnlike 79 = .ok (.iconst 0, 1) := by decide +kernel
theorem dX11_firstUnlike_80 : decode cX11_firstUnlike 80 = .ok (.iload_n 2, 1) := by decide +kernel
theorem dX11_firstUnlike_81 : decode cX11_firstUnlike 81 = .ok (.invokestatic 105, 3) := by decide +kernel
theorem dX11_firstUnlike_84 : decode cX11_firstUnlike 84 = .ok (.ifCond .eq 47, 3) := by decide +kernel
theorem dX11_firstUnlike_87 : decode cX11_firstUnlike 87 = .ok (.aload_n 0, 1) := by decide +kernel
theorem dX11_firstUnlike_88 : decode cX11_firstUnlike 88 = .ok (.iload 5, 2) := by decide +kernel
theorem dX11_firstUnlike_90 : decode cX11_firstUnlike 90 = .ok (.iload 6, 2) := by decide +kernel
theorem dX11_firstUnlike_92 : decode cX11_firstUnlike 92 = .ok (.iload 7, 2) := by decide +kernel
theorem dX11_firstUnlike_94 : decode cX11_firstUnlike 94 = .ok (.invokevirtual 154, 3) := by decide +kernel
theorem dX11_firstUnlike_97 : decode cX11_firstUnlike 97 = .ok (.iload_n 3, 1) := by decide +kernel
theorem dX11_firstUnlike_98 : decode cX11_firstUnlike 98 = .ok (.if_icmp .ne 33, 3) := by decide +kernel
theorem dX11_firstUnlike_101 : decode cX11_firstUnlike 101 = .ok (.aload_n 0, 1) := by decide +kernel
theorem dX11_firstUnlike_102 : decode cX11_firstUnlike 102 = .ok (.iload_n 1, 1) := by decide +kernel
theorem dX11_firstUnlike_103 : decode cX11_firstUnlike 103 = .ok (.iload 5, 2) := by decide +kernel
theorem dX11_firstUnlike_105 : decode cX11_firstUnlike 105 = .ok (.iload 6, 2) := by decide +kernel
theorem dX11_firstUnlike_107 : decode cX11_firstUnlike 107 = .ok (.iload 7, 2) := by decide +kernel
theorem dX11_firstUnlike_109 : decode cX11_firstUnlike 109 = .ok (.invokevirtual 251, 3) := by decide +kernel
theorem dX11_firstUnlike_112 : decode cX11_firstUnlike 112 = .ok (.iload_n 3, 1) := by decide +kernel
theorem dX11_firstUnlike_113 : decode cX11_firstUnlike 113 = .ok (.if_icmp .eq 18, 3) := by decide +kernel
theorem dX11_firstUnlike_116 : decode cX11_firstUnlike 116 = .ok (.bipush 100, 2) := by decide +kernel
theorem dX11_firstUnlike_118 : decode cX11_firstUnlike 118 = .ok (.iload 5, 2) := by decide +kernel
theorem dX11_firstUnlike_120 : decode cX11_firstUnlike 120 = .ok (.imul, 1) := by decide +kernel
theorem dX11_firstUnlike_121 : decode cX11_firstUnlike 121 = .ok (.bipush 10, 2) := by decide +kernel
theorem dX11_firstUnlike_123 : decode cX11_firstUnlike 123 = .ok (.iload 6, 2) := by decide +kernel
theorem dX11_firstUnlike_125 : decode cX11_firstUnlike 125 = .ok (.imul, 1) := by decide +kernel
theorem dX11_firstUnlike_126 : decode cX11_firstUnlike 126 = .ok (.iadd, 1) := by decide +kernel
theorem dX11_firstUnlike_127 : decode cX11_firstUnlike 127 = .ok (.iload 7, 2) := by decide +kernel
theorem dX11_firstUnlike_129 : decode cX11_firstUnlike 129 = .ok (.iadd, 1) := by decide +kernel
theorem dX11_firstUnlike_130 : decode cX11_firstUnlike 130 = .ok (.ireturn, 1) := by decide +kernel
theorem dX11_firstUnlike_131 : decode cX11_firstUnlike 131 = .ok (.iinc 6 1, 3) := by decide +kernel
theorem dX11_firstUnlike_134 : decode cX11_firstUnlike 134 = .ok (.goto (-73), 3) := by decide +kernel
theorem dX11_firstUnlike_137 : decode cX11_firstUnlike 137 = .ok (.iinc 5 1, 3) := by decide +kernel
theorem dX11_firstUnlike_140 : decode cX11_firstUnlike 140 = .ok (.goto (-88), 3) := by decide +kernel
theorem dX11_firstUnlike_143 : decode cX11_firstUnlike 143 = .ok (.iinc 4 1, 3) := by decide +kernel
theorem dX11_firstUnlike_146 : decode cX11_firstUnlike 146 = .ok (.goto (-105), 3) := by decide +kernel
theorem dX11_firstUnlike_149 : decode cX11_firstUnlike 149 = .ok (.aload_n 0, 1) := by decide +kernel
theorem dX11_firstUnlike_150 : decode cX11_firstUnlike 150 = .ok (.iconst 3, 1) := by decide +kernel
theorem dX11_firstUnlike_151 : decode cX11_firstUnlike 151 = .ok (.invokevirtual 109, 3) := by decide +kernel
theorem dX11_firstUnlike_154 : decode cX11_firstUnlike 154 = .ok (.ireturn, 1) := by decide +kernel
set_option maxRecDepth 20000 in
theorem ggX11_firstMissing_X11_firstUnlike : GoodIn wsX11_firstMissing wsX11_firstUnlike := goodIn_ca (goodIn_r _ [5, 6, 7, 8, 4, 9, 10, 11, 12, 13, 14, 15, 16, 17, 18, 19, 20, 21, 22, 23, 24, 25, 26, 27, 28, 29, 30, 31, 32, 33, 34, 35, 36, 37, 38, 39, 40, 41, 42, 43, 44, 45, 46, 47, 48, 49, 50, 51, 52, 53, 54, 55, 56, 57, 58, 59, 60, 61, 62, 63, 64, 65, 66, 67, 68, 69, 70, 71, 72, 73, 74, 75, 76, 77, 78] (by decide +kernel) (by decide +kernel)) (goodIn_sub (fun _ h => List.mem_cons_of_mem _ (List.mem_append_right _ h)) (gsub_f _))
set_option maxRecDepth 20000 in
theorem gX11_firstMissing_X11_firstUnlike : GoodIn wsX11_firstMissing (wsV RX11 255 RX11 yX11_firstUnlike wsX11_firstUnlike) := goodIn_app (goodIn_r _ [1, 2, 3, 4] (by decide +kernel) (by decide +kernel)) ggX11_firstMissing_X11_firstUnlike
theorem dX11_firstMissing_0 : decode cX11_firstMissing 0 = .ok (.aload_n 0, 1) := by decide +kernel
theorem dX11_firstMissing_1 : decode cX11_firstMissing 1 = .ok (.iload_n 1, 1) := by decide +kernel
theorem dX11_firstMissing_2 : decode cX11_firstMissing 2 = .ok (.iload_n 2, 1) := by decide +kernel
theorem dX11_firstMissing_3 : decode cX11_firstMissing 3 = .ok (.iconst 1, 1) := by decide +kernel
theorem dX11_firstMissing_4 : decode cX11_firstMissing 4 = .ok (.invokevirtual 255, 3) := by decide +kernel
theorem dX11_firstMissing_7 : decode cX11_firstMissing 7 = .ok (.ireturn, 1) := by decide +kernel
set_option maxRecDepth 20000 in
theorem ggX11_firstExtra_X11_firstUnlike : GoodIn wsX11_firstExtra wsX11_firstUnlike := goodIn_ca (goodIn_r _ [5, 6, 7, 8, 4, 9, 10, 11, 12, 13, 14, 15, 16, 17, 18, 19, 20, 21, 22, 23, 24, 25, 26, 27, 28, 29, 30, 31, 32, 33, 34, 35, 36, 37, 38, 39, 40, 41, 42, 43, 44, 45, 46, 47, 48, 49, 50, 51, 52, 53, 54, 55, 56, 57, 58, 59, 60, 61, 62, 63, 64, 65, 66, 67, 68, 69, 70, 71, 72, 73, 74, 75, 76, 77, 78] (by decide +kernel) (by decide +kernel)) (goodIn_sub (fun _ h => List.mem_cons_of_mem _ (List.mem_append_right _ h)) (gsub_f _))
set_option maxRecDepth 20000 in
theorem gX11_firstExtra_X11_firstUnlike : GoodIn wsX11_firstExtra (wsV RX11 255 RX11 yX11_firstUnlike wsX11_firstUnlike) := goodIn_app (goodIn_r _ [1, 2, 3, 4] (by decide +kernel) (by decide +kernel)) ggX11_firstExtra_X11_firstUnlike
theorem dX11_firstExtra_0 : decode cX11_firstExtra 0 = .ok (.aload_n 0, 1) := by decide +kernel
theorem dX11_firstExtra_1 : decode cX11_firstExtra 1 = .ok (.iload_n 1, 1) := by decide +kernel
theorem dX11_firstExtra_2 : decode cX11_firstExtra 2 = .ok (.iload_n 2, 1) := by decide +kernel
theorem dX11_firstExtra_3 : decode cX11_firstExtra 3 = .ok (.iconst 0, 1) := by decide +kernel
theorem dX11_firstExtra_4 : decode cX11_firstExtra 4 = .ok (.invokevirtual 255, 3) := by decide +kernel
theorem dX11_firstExtra_7 : decode cX11_firstExtra 7 = .ok (.ireturn, 1) := by decide +kernel
set_option maxRecDepth 20000 in
theorem ggX11_hasCyclePeriods_X11_isLinear : GoodIn wsX11_hasCyclePeriods wsX11_isLinear := goodIn_ca (goodIn_r _ [8, 2, 9, 10, 7, 11, 12, 13, 14, 43, 44, 45, 46, 47, 48, 49, 50, 51, 52, 53, 54, 55, 56, 57, 58, 59, 60, 61, 62, 63, 64, 65, 66, 67, 68, 69, 70, 71, 72] (by decide +kernel) (by decide +kernel)) (goodIn_sub (fun _ h => List.mem_cons_of_mem _ (List.mem_append_right _ h)) (gsub_f _))
set_option maxRecDepth 20000 in
theorem gX11_hasCyclePeriods_X11_isLinear : GoodIn wsX11_hasCyclePeriods (wsV RX11 244 RX11 yX11_isLinear wsX11_isLinear) := goodIn_app (goodIn_r _ [4, 5, 6, 7] (by decide +kernel) (by decide +kernel)) ggX11_hasCyclePeriods_X11_isLinear
set_option maxRecDepth 20000 in
theorem ggX11_hasCyclePeriods_X11_fails : GoodIn wsX11_hasCyclePeriods wsX11_fails := goodIn_r _ [18, 1, 43, 44, 45, 46, 47, 48, 49, 50, 51, 52, 53, 54, 55, 56, 57, 58, 59, 60, 61, 62, 63, 64, 65, 66, 67, 68, 69, 70, 71, 72] (by decide +kernel) (by decide +kernel)
set_option maxRecDepth 20000 in
theorem gX11_hasCyclePeriods_X11_fails : GoodIn wsX11_hasCyclePeriods (wsV RX11 109 RX11 yX11_fails wsX11_fails) := goodIn_app (goodIn_r _ [15, 16, 17, 7] (by decide +kernel) (by decide +kernel)) ggX11_hasCyclePeriods_X11_fails
set_option maxRecDepth 20000 in
theorem ggX11_hasCyclePeriods_X11_layCycles : GoodIn wsX11_hasCyclePeriods wsX11_layCycles := goodIn_ca (goodIn_r _ [22, 3, 23, 24, 25, 26, 7, 27, 2, 28, 29, 30, 31, 32, 33, 34, 35, 36, 37, 38, 39, 40, 41, 42, 43, 44, 45, 46, 47, 48, 49, 50, 51, 52, 53, 54, 55, 56, 57, 58, 59, 60, 61, 62, 63, 64, 65, 66, 67, 68, 69, 70, 71, 72] (by decide +kernel) (by decide +kernel)) (goodIn_sub (fun _ h => List.mem_cons_of_mem _ (List.mem_append_right _ h)) (gsub_f _))
set_option maxRecDepth 20000 in
theorem gX11_hasCyclePeriods_X11_layCycles : GoodIn wsX11_hasCyclePeriods (wsV RX11 235 RX11 yX11_layCycles wsX11_layCycles) := goodIn_app (goodIn_r _ [19, 20, 21, 7] (by decide +kernel) (by decide +kernel)) ggX11_hasCyclePeriods_X11_layCycles
theorem dX11_hasCyclePeriods_0 : decode cX11_hasCyclePeriods 0 = .ok (.aload_n 0, 1) := by decide +kernel
theorem dX11_hasCyclePeriods_1 : decode cX11_hasCyclePeriods 1 = .ok (.iconst 0, 1) := by decide +kernel
theorem dX11_hasCyclePeriods_2 : decode cX11_hasCyclePeriods 2 = .ok (.putfield 1, 3) := by decide +kernel
theorem dX11_hasCyclePeriods_5 : decode cX11_hasCyclePeriods 5 = .ok (.aload_n 0, 1) := by decide +kernel
theorem dX11_hasCyclePeriods_6 : decode cX11_hasCyclePeriods 6 = .ok (.iload_n 1, 1) := by decide +kernel
theorem dX11_hasCyclePeriods_7 : decode cX11_hasCyclePeriods 7 = .ok (.iload_n 2, 1) := by decide +kernel
theorem dX11_hasCyclePeriods_8 : decode cX11_hasCyclePeriods 8 = .ok (.invokevirtual 244, 3) := by decide +kernel
theorem dX11_hasCyclePeriods_11 : decode cX11_hasCyclePeriods 11 = .ok (.ifCond .ne 17, 3) := by decide +kernel
theorem dX11_hasCyclePeriods_14 : decode cX11_hasCyclePeriods 14 = .ok (.aload_n 0, 1) := by decide +kernel
theorem dX11_hasCyclePeriods_15 : decode cX11_hasCyclePeriods 15 = .ok (.iconst 1, 1) := by decide +kernel
theorem dX11_hasCyclePeriods_16 : decode cX11_hasCyclePeriods 16 = .ok (.invokevirtual 109, 3) := by decide +kernel
theorem dX11_hasCyclePeriods_19 : decode cX11_hasCyclePeriods 19 = .ok (.ifCond .le 7, 3) := by decide +kernel
theorem dX11_hasCyclePeriods_22 : decode cX11_hasCyclePeriods 22 = .ok (.iconst 1, 1) := by decide +kernel
theorem dX11_hasCyclePeriods_23 : decode cX11_hasCyclePeriods 23 = .ok (.goto 4, 3) := by decide +kernel
theorem dX11_hasCyclePeriods_26 : decode cX11_hasCyclePeriods 26 = .ok (.iconst 0, 1) := by decide +kernel
theorem dX11_hasCyclePeriods_27 : decode cX11_hasCyclePeriods 27 = .ok (.ireturn, 1) := by decide +kernel
theorem dX11_hasCyclePeriods_28 : decode cX11_hasCyclePeriods 28 = .ok (.aload_n 0, 1) := by decide +kernel
theorem dX11_hasCyclePeriods_29 : decode cX11_hasCyclePeriods 29 = .ok (.invokevirtual 235, 3) := by decide +kernel
theorem dX11_hasCyclePeriods_32 : decode cX11_hasCyclePeriods 32 = .ok (.iconst 4, 1) := by decide +kernel
theorem dX11_hasCyclePeriods_33 : decode cX11_hasCyclePeriods 33 = .ok (.iload_n 1, 1) := by decide +kernel
theorem dX11_hasCyclePeriods_34 : decode cX11_hasCyclePeriods 34 = .ok (.imul, 1) := by decide +kernel
theorem dX11_hasCyclePeriods_35 : decode cX11_hasCyclePeriods 35 = .ok (.iload_n 2, 1) := by decide +kernel
theorem dX11_hasCyclePeriods_36 : decode cX11_hasCyclePeriods 36 = .ok (.iadd, 1) := by decide +kernel
theorem dX11_hasCyclePeriods_37 : decode cX11_hasCyclePeriods 37 = .ok (.istore_n 3, 1) := by decide +kernel
theorem dX11_hasCyclePeriods_38 : decode cX11_hasCyclePeriods 38 = .ok (.bipush 50, 2) := by decide +kernel
theorem dX11_hasCyclePeriods_40 : decode cX11_hasCyclePeriods 40 = .ok (.bipush 9, 2) := by decide +kernel
theorem dX11_hasCyclePeriods_42 : decode cX11_hasCyclePeriods 42 = .ok (.iload_n 3, 1) := by decide +kernel
theorem dX11_hasCyclePeriods_43 : decode cX11_hasCyclePeriods 43 = .ok (.imul, 1) := by decide +kernel
theorem dX11_hasCyclePeriods_44 : decode cX11_hasCyclePeriods 44 = .ok (.iadd, 1) := by decide +kernel
theorem dX11_hasCyclePeriods_45 : decode cX11_hasCyclePeriods 45 = .ok (.istore 4, 2) := by decide +kernel
theorem dX11_hasCyclePeriods_47 : decode cX11_hasCyclePeriods 47 = .ok (.iload 4, 2) := by decide +kernel
theorem dX11_hasCyclePeriods_49 : decode cX11_hasCyclePeriods 49 = .ok (.bipush 50, 2) := by decide +kernel
theorem dX11_hasCyclePeriods_51 : decode cX11_hasCyclePeriods 51 = .ok (.bipush 9, 2) := by decide +kernel
theorem dX11_hasCyclePeriods_53 : decode cX11_hasCyclePeriods 53 = .ok (.iload_n 3, 1) := by decide +kernel
theorem dX11_hasCyclePeriods_54 : decode cX11_hasCyclePeriods 54 = .ok (.imul, 1) := by decide +kernel
theorem dX11_hasCyclePeriods_55 : decode cX11_hasCyclePeriods 55 = .ok (.iadd, 1) := by decide +kernel
theorem dX11_hasCyclePeriods_56 : decode cX11_hasCyclePeriods 56 = .ok (.iconst 3, 1) := by decide +kernel
theorem dX11_hasCyclePeriods_57 : decode cX11_hasCyclePeriods 57 = .ok (.aload_n 0, 1) := by decide +kernel
theorem dX11_hasCyclePeriods_58 : decode cX11_hasCyclePeriods 58 = .ok (.getfield 13, 3) := by decide +kernel
theorem dX11_hasCyclePeriods_61 : decode cX11_hasCyclePeriods 61 = .ok (.bipush 42, 2) := by decide +kernel
theorem dX11_hasCyclePeriods_63 : decode cX11_hasCyclePeriods 63 = .ok (.iload_n 3, 1) := by decide +kernel
theorem dX11_hasCyclePeriods_64 : decode cX11_hasCyclePeriods 64 = .ok (.iadd, 1) := by decide +kernel
theorem dX11_hasCyclePeriods_65 : decode cX11_hasCyclePeriods 65 = .ok (.iaload, 1) := by decide +kernel
theorem dX11_hasCyclePeriods_66 : decode cX11_hasCyclePeriods 66 = .ok (.imul, 1) := by decide +kernel
theorem dX11_hasCyclePeriods_67 : decode cX11_hasCyclePeriods 67 = .ok (.iadd, 1) := by decide +kernel
theorem dX11_hasCyclePeriods_68 : decode cX11_hasCyclePeriods 68 = .ok (.if_icmp .ge 52, 3) := by decide +kernel
theorem dX11_hasCyclePeriods_71 : decode cX11_hasCyclePeriods 71 = .ok (.aload_n 0, 1) := by decide +kernel
theorem dX11_hasCyclePeriods_72 : decode cX11_hasCyclePeriods 72 = .ok (.getfield 95, 3) := by decide +kernel
theorem dX11_hasCyclePeriods_75 : decode cX11_hasCyclePeriods 75 = .ok (.bipush 100, 2) := by decide +kernel
theorem dX11_hasCyclePeriods_77 : decode cX11_hasCyclePeriods 77 = .ok (.aload_n 0, 1) := by decide +kernel
theorem dX11_hasCyclePeriods_78 : decode cX11_hasCyclePeriods 78 = .ok (.getfield 13, 3) := by decide +kernel
theorem dX11_hasCyclePeriods_81 : decode cX11_hasCyclePeriods 81 = .ok (.iload 4, 2) := by decide +kernel
theorem dX11_hasCyclePeriods_83 : decode cX11_hasCyclePeriods 83 = .ok (.iaload, 1) := by decide +kernel
theorem dX11_hasCyclePeriods_84 : decode cX11_hasCyclePeriods 84 = .ok (.imul, 1) := by decide +kernel
theorem dX11_hasCyclePeriods_85 : decode cX11_hasCyclePeriods 85 = .ok (.bipush 10, 2) := by decide +kernel
theorem dX11_hasCyclePeriods_87 : decode cX11_hasCyclePeriods 87 = .ok (.aload_n 0, 1) := by decide +kernel
theorem dX11_hasCyclePeriods_88 : decode cX11_hasCyclePeriods 88 = .ok (.getfield 13, 3) := by decide +kernel
theorem dX11_hasCyclePeriods_91 : decode cX11_hasCyclePeriods 91 = .ok (.iload 4, 2) := by decide +kernel
theorem dX11_hasCyclePeriods_93 : decode cX11_hasCyclePeriods 93 = .ok (.iconst 1, 1) := by decide +kernel
theorem dX11_hasCyclePeriods_94 : decode cX11_hasCyclePeriods 94 = .ok (.iadd, 1) := by decide +kernel
theorem dX11_hasCyclePeriods_95 : decode cX11_hasCyclePeriods 95 = .ok (.iaload, 1) := by decide +kernel
theorem dX11_hasCyclePeriods_96 : decode cX11_hasCyclePeriods 96 = .ok (.imul, 1) := by decide +kernel
theorem dX11_hasCyclePeriods_97 : decode cX11_hasCyclePeriods 97 = .ok (.iadd, 1) := by decide +kernel
theorem dX11_hasCyclePeriods_98 : decode cX11_hasCyclePeriods 98 = .ok (.aload_n 0, 1) := by decide +kernel
theorem dX11_hasCyclePeriods_99 : decode cX11_hasCyclePeriods 99 = .ok (.getfield 13, 3) := by decide +kernel
theorem dX11_hasCyclePeriods_102 : decode cX11_hasCyclePeriods 102 = .ok (.iload 4, 2) := by decide +kernel
theorem dX11_hasCyclePeriods_104 : decode cX11_hasCyclePeriods 104 = .ok (.iconst 2, 1) := by decide +kernel
theorem dX11_hasCyclePeriods_105 : decode cX11_hasCyclePeriods 105 = .ok (.iadd, 1) := by decide +kernel
theorem dX11_hasCyclePeriods_106 : decode cX11_hasCyclePeriods 106 = .ok (.iaload, 1) := by decide +kernel
theorem dX11_hasCyclePeriods_107 : decode cX11_hasCyclePeriods 107 = .ok (.iadd, 1) := by decide +kernel
theorem dX11_hasCyclePeriods_108 : decode cX11_hasCyclePeriods 108 = .ok (.baload, 1) := by decide +kernel
theorem dX11_hasCyclePeriods_109 : decode cX11_hasCyclePeriods 109 = .ok (.ifCond .ne 5, 3) := by decide +kernel
theorem dX11_hasCyclePeriods_112 : decode cX11_hasCyclePeriods 112 = .ok (.iconst 0, 1) := by decide +kernel
theorem dX11_hasCyclePeriods_113 : decode cX11_hasCyclePeriods 113 = .ok (.ireturn, 1) := by decide +kernel
theorem dX11_hasCyclePeriods_114 : decode cX11_hasCyclePeriods 114 = .ok (.iinc 4 3, 3) := by decide +kernel
theorem dX11_hasCyclePeriods_117 : decode cX11_hasCyclePeriods 117 = .ok (.goto (-70), 3) := by decide +kernel
theorem dX11_hasCyclePeriods_120 : decode cX11_hasCyclePeriods 120 = .ok (.iconst 1, 1) := by decide +kernel
theorem dX11_hasCyclePeriods_121 : decode cX11_hasCyclePeriods 121 = .ok (.ireturn, 1) := by decide +kernel
theorem dX11_power_0 : decode cX11_power 0 = .ok (.iconst 1, 1) := by decide +kernel
theorem dX11_power_1 : decode cX11_power 1 = .ok (.istore_n 1, 1) := by decide +kernel
theorem dX11_power_2 : decode cX11_power 2 = .ok (.iconst 0, 1) := by decide +kernel
theorem dX11_power_3 : decode cX11_power 3 = .ok (.istore_n 2, 1) := by decide +kernel
theorem dX11_power_4 : decode cX11_power 4 = .ok (.iload_n 2, 1) := by decide +kernel
theorem dX11_power_5 : decode cX11_power 5 = .ok (.iload_n 0, 1) := by decide +kernel
theorem dX11_power_6 : decode cX11_power 6 = .ok (.if_icmp .ge 13, 3) := by decide +kernel
theorem dX11_power_9 : decode cX11_power 9 = .ok (.iload_n 1, 1) := by decide +kernel
theorem dX11_power_10 : decode cX11_power 10 = .ok (.iconst 3, 1) := by decide +kernel
theorem dX11_power_11 : decode cX11_power 11 = .ok (.imul, 1) := by decide +kernel
theorem dX11_power_12 : decode cX11_power 12 = .ok (.istore_n 1, 1) := by decide +kernel
theorem dX11_power_13 : decode cX11_power 13 = .ok (.iinc 2 1, 3) := by decide +kernel
theorem dX11_power_16 : decode cX11_power 16 = .ok (.goto (-12), 3) := by decide +kernel
theorem dX11_power_19 : decode cX11_power 19 = .ok (.iload_n 1, 1) := by decide +kernel
theorem dX11_power_20 : decode cX11_power 20 = .ok (.ireturn, 1) := by decide +kernel
theorem dX11_layOther_0 : decode cX11_layOther 0 = .ok (.iload_n 1, 1) := by decide +kernel
theorem dX11_layOther_1 : decode cX11_layOther 1 = .ok (.istore_n 3, 1) := by decide +kernel
theorem dX11_layOther_2 : decode cX11_layOther 2 = .ok (.iload_n 2, 1) := by decide +kernel
theorem dX11_layOther_3 : decode cX11_layOther 3 = .ok (.iconst 1, 1) := by decide +kernel
theorem dX11_layOther_4 : decode cX11_layOther 4 = .ok (.isub, 1) := by decide +kernel
theorem dX11_layOther_5 : decode cX11_layOther 5 = .ok (.istore 4, 2) := by decide +kernel
theorem dX11_layOther_7 : decode cX11_layOther 7 = .ok (.iload 4, 2) := by decide +kernel
theorem dX11_layOther_9 : decode cX11_layOther 9 = .ok (.ifCond .lt 23, 3) := by decide +kernel
theorem dX11_layOther_12 : decode cX11_layOther 12 = .ok (.aload_n 0, 1) := by decide +kernel
theorem dX11_layOther_13 : decode cX11_layOther 13 = .ok (.getfield 48, 3) := by decide +kernel
theorem dX11_layOther_16 : decode cX11_layOther 16 = .ok (.iload 4, 2) := by decide +kernel
theorem dX11_layOther_18 : decode cX11_layOther 18 = .ok (.iload_n 3, 1) := by decide +kernel
theorem dX11_layOther_19 : decode cX11_layOther 19 = .ok (.iconst 3, 1) := by decide +kernel
theorem dX11_layOther_20 : decode cX11_layOther 20 = .ok (.irem, 1) := by decide +kernel
theorem dX11_layOther_21 : decode cX11_layOther 21 = .ok (.iastore, 1) := by decide +kernel
theorem dX11_layOther_22 : decode cX11_layOther 22 = .ok (.iload_n 3, 1) := by decide +kernel
theorem dX11_layOther_23 : decode cX11_layOther 23 = .ok (.iconst 3, 1) := by decide +kernel
theorem dX11_layOther_24 : decode cX11_layOther 24 = .ok (.idiv, 1) := by decide +kernel
theorem dX11_layOther_25 : decode cX11_layOther 25 = .ok (.istore_n 3, 1) := by decide +kernel
theorem dX11_layOther_26 : decode cX11_layOther 26 = .ok (.iinc 4 (-1), 3) := by decide +kernel
theorem dX11_layOther_29 : decode cX11_layOther 29 = .ok (.goto (-22), 3) := by decide +kernel
theorem dX11_layOther_32 : decode cX11_layOther 32 = .ok (.return_, 1) := by decide +kernel
set_option maxRecDepth 20000 in
theorem ggX11_acceptedAll_X11_layReached : GoodIn wsX11_acceptedAll wsX11_layReached := goodIn_ca (goodIn_r _ [6, 7, 8, 9, 5, 10, 11, 12, 13, 14, 15, 16, 17, 18, 19, 20, 21, 22, 58, 59, 60, 61, 62, 63, 64, 65, 66, 67, 68, 69, 70, 71, 72, 73, 74, 75, 76, 77, 78, 79, 80, 81, 82, 83, 84, 85, 86, 87] (by decide +kernel) (by decide +kernel)) (goodIn_sub (fun _ h => List.mem_cons_of_mem _ (List.mem_append_left _ (List.mem_append_right _ h))) (gsub_f _))
set_option maxRecDepth 20000 in
theorem gX11_acceptedAll_X11_layReached : GoodIn wsX11_acceptedAll (wsV RX11 178 RX11 yX11_layReached wsX11_layReached) := goodIn_app (goodIn_r _ [2, 3, 4, 5] (by decide +kernel) (by decide +kernel)) ggX11_acceptedAll_X11_layReached
set_option maxRecDepth 20000 in
theorem ggX11_acceptedAll_X11_power : GoodIn wsX11_acceptedAll wsX11_power := goodIn_r _ [25] (by decide +kernel) (by decide +kernel)
set_option maxRecDepth 20000 in
theorem gX11_acceptedAll_X11_power : GoodIn wsX11_acceptedAll (va_wsS RX11 259 yX11_power wsX11_power) := goodIn_app (goodIn_r _ [23, 24, 5] (by decide +kernel) (by decide +kernel)) ggX11_acceptedAll_X11_power
set_option maxRecDepth 20000 in
theorem ggX11_acceptedAll_X11_layOther : GoodIn wsX11_acceptedAll wsX11_layOther := goodIn_ca (goodIn_r _ [29, 1, 58, 59, 60, 61, 62, 63, 64, 65, 66, 67, 68, 69, 70, 71, 72, 73, 74, 75, 76, 77, 78, 79, 80, 81, 82, 83, 84, 85, 86, 87] (by decide +kernel) (by decide +kernel)) (goodIn_sub (fun _ h => List.mem_cons_of_mem _ (List.mem_append_left _ (List.mem_append_right _ h))) (gsub_f _))
set_option maxRecDepth 20000 in
theorem gX11_acceptedAll_X11_layOther : GoodIn wsX11_acceptedAll (wsV RX11 262 RX11 yX11_layOther wsX11_layOther) := goodIn_app (goodIn_r _ [26, 27, 28, 5] (by decide +kernel) (by decide +kernel)) ggX11_acceptedAll_X11_layOther
set_option maxRecDepth 20000 in
theorem ggX11_acceptedAll_X11_isAccepted : GoodIn wsX11_acceptedAll wsX11_isAccepted := goodIn_ca (goodIn_ca (goodIn_r _ [33, 34, 22, 35, 36, 37, 38, 5, 39, 11, 12, 13, 14, 15, 16, 17, 18, 19, 20, 21, 40, 41, 42, 43, 44, 45, 46, 47, 48, 7, 8, 9, 10, 49, 50, 51, 52, 53, 54, 55, 56, 57, 58, 59, 60, 61, 62, 63, 64, 65, 66, 67, 68, 69, 70, 71, 72, 73, 74, 75, 76, 77, 78, 79, 80, 81, 82, 83, 84, 85, 86, 87] (by decide +kernel) (by decide +kernel)) (goodIn_sub (fun _ h => List.mem_cons_of_mem _ (List.mem_append_left _ (List.mem_append_right _ h))) (gsub_f _))) (goodIn_sub (fun _ h => List.mem_cons_of_mem _ (List.mem_append_right _ h)) (gsub_f _))
set_option maxRecDepth 20000 in
theorem gX11_acceptedAll_X11_isAccepted : GoodIn wsX11_acceptedAll (wsV RX11 181 RX11 yX11_isAccepted wsX11_isAccepted) := goodIn_app (goodIn_r _ [30, 31, 32, 5] (by decide +kernel) (by decide +kernel)) ggX11_acceptedAll_X11_isAccepted
theorem dX11_acceptedAll_0 : decode cX11_acceptedAll 0 = .ok (.aload_n 0, 1) := by decide +kernel
theorem dX11_acceptedAll_1 : decode cX11_acceptedAll 1 = .ok (.invokevirtual 178, 3) := by decide +kernel
theorem dX11_acceptedAll_4 : decode cX11_acceptedAll 4 = .ok (.lconst 0, 1) := by decide +kernel
theorem dX11_acceptedAll_5 : decode cX11_acceptedAll 5 = .ok (.lstore_n 3, 1) := by decide +kernel
theorem dX11_acceptedAll_6 : decode cX11_acceptedAll 6 = .ok (.iconst 0, 1) := by decide +kernel
theorem dX11_acceptedAll_7 : decode cX11_acceptedAll 7 = .ok (.istore 5, 2) := by decide +kernel
theorem dX11_acceptedAll_9 : decode cX11_acceptedAll 9 = .ok (.iload 5, 2) := by decide +kernel
theorem dX11_acceptedAll_11 : decode cX11_acceptedAll 11 = .ok (.iload_n 2, 1) := by decide +kernel
theorem dX11_acceptedAll_12 : decode cX11_acceptedAll 12 = .ok (.invokestatic 259, 3) := by decide +kernel
theorem dX11_acceptedAll_15 : decode cX11_acceptedAll 15 = .ok (.if_icmp .ge 37, 3) := by decide +kernel
theorem dX11_acceptedAll_18 : decode cX11_acceptedAll 18 = .ok (.aload_n 0, 1) := by decide +kernel
theorem dX11_acceptedAll_19 : decode cX11_acceptedAll 19 = .ok (.iload 5, 2) := by decide +kernel
theorem dX11_acceptedAll_21 : decode cX11_acceptedAll 21 = .ok (.iload_n 2, 1) := by decide +kernel
theorem dX11_acceptedAll_22 : decode cX11_acceptedAll 22 = .ok (.invokevirtual 262, 3) := by decide +kernel
theorem dX11_acceptedAll_25 : decode cX11_acceptedAll 25 = .ok (.lload_n 3, 1) := by decide +kernel
theorem dX11_acceptedAll_26 : decode cX11_acceptedAll 26 = .ok (.aload_n 0, 1) := by decide +kernel
theorem dX11_acceptedAll_27 : decode cX11_acceptedAll 27 = .ok (.iload_n 1, 1) := by decide +kernel
theorem dX11_acceptedAll_28 : decode cX11_acceptedAll 28 = .ok (.aload_n 0, 1) := by decide +kernel
theorem dX11_acceptedAll_29 : decode cX11_acceptedAll 29 = .ok (.getfield 48, 3) := by decide +kernel
theorem dX11_acceptedAll_32 : decode cX11_acceptedAll 32 = .ok (.iload_n 2, 1) := by decide +kernel
theorem dX11_acceptedAll_33 : decode cX11_acceptedAll 33 = .ok (.invokevirtual 181, 3) := by decide +kernel
theorem dX11_acceptedAll_36 : decode cX11_acceptedAll 36 = .ok (.ifCond .eq 7, 3) := by decide +kernel
theorem dX11_acceptedAll_39 : decode cX11_acceptedAll 39 = .ok (.lconst 1, 1) := by decide +kernel
theorem dX11_acceptedAll_40 : decode cX11_acceptedAll 40 = .ok (.goto 4, 3) := by decide +kernel
theorem dX11_acceptedAll_43 : decode cX11_acceptedAll 43 = .ok (.lconst 0, 1) := by decide +kernel
theorem dX11_acceptedAll_44 : decode cX11_acceptedAll 44 = .ok (.ladd, 1) := by decide +kernel
theorem dX11_acceptedAll_45 : decode cX11_acceptedAll 45 = .ok (.lstore_n 3, 1) := by decide +kernel
theorem dX11_acceptedAll_46 : decode cX11_acceptedAll 46 = .ok (.iinc 5 1, 3) := by decide +kernel
theorem dX11_acceptedAll_49 : decode cX11_acceptedAll 49 = .ok (.goto (-40), 3) := by decide +kernel
theorem dX11_acceptedAll_52 : decode cX11_acceptedAll 52 = .ok (.lload_n 3, 1) := by decide +kernel
theorem dX11_acceptedAll_53 : decode cX11_acceptedAll 53 = .ok (.lreturn, 1) := by decide +kernel
set_option maxRecDepth 20000 in
theorem ggX11_acceptedWords_X11_in : GoodIn wsX11_acceptedWords wsX11_in := goodIn_r _ [5] (by decide +kernel) (by decide +kernel)
set_option maxRecDepth 20000 in
theorem gX11_acceptedWords_X11_in : GoodIn wsX11_acceptedWords (va_wsS RX11 105 yX11_in wsX11_in) := goodIn_app (goodIn_r _ [2, 3, 4] (by decide +kernel) (by decide +kernel)) ggX11_acceptedWords_X11_in
set_option maxRecDepth 20000 in
theorem ggX11_acceptedWords_X11_fails : GoodIn wsX11_acceptedWords wsX11_fails := goodIn_r _ [9, 1, 81, 82, 83, 84, 85, 86, 87, 88, 89, 90, 91, 92, 93, 94, 95, 96, 97, 98, 99, 100, 101, 102, 103, 104, 105, 106, 107, 108, 109, 110] (by decide +kernel) (by decide +kernel)
set_option maxRecDepth 20000 in
theorem gX11_acceptedWords_X11_fails : GoodIn wsX11_acceptedWords (wsV RX11 109 RX11 yX11_fails wsX11_fails) := goodIn_app (goodIn_r _ [6, 7, 8, 4] (by decide +kernel) (by decide +kernel)) ggX11_acceptedWords_X11_fails
set_option maxRecDepth 20000 in
theorem ggX11_acceptedWords_X11_lacksMode : GoodIn wsX11_acceptedWords wsX11_lacksMode := goodIn_ca (goodIn_r _ [13, 14, 15, 16, 4, 17, 18, 19, 20, 21, 81, 82, 83, 84, 85, 86, 87, 88, 89, 90, 91, 92, 93, 94, 95, 96, 97, 98, 99, 100, 101, 102, 103, 104, 105, 106, 107, 108, 109, 110] (by decide +kernel) (by decide +kernel)) (goodIn_sub (fun _ h => List.mem_cons_of_mem _ (List.mem_append_left _ (List.mem_append_right _ h))) (gsub_f _))
set_option maxRecDepth 20000 in
theorem gX11_acceptedWords_X11_lacksMode : GoodIn wsX11_acceptedWords (wsV RX11 175 RX11 yX11_lacksMode wsX11_lacksMode) := goodIn_app (goodIn_r _ [10, 11, 12, 4] (by decide +kernel) (by decide +kernel)) ggX11_acceptedWords_X11_lacksMode
set_option maxRecDepth 20000 in
theorem ggX11_acceptedWords_X11_acceptedAll : GoodIn wsX11_acceptedWords wsX11_acceptedAll := goodIn_ca (goodIn_ca (goodIn_r _ [25, 26, 27, 28, 29, 4, 30, 31, 32, 33, 34, 35, 36, 37, 38, 39, 40, 41, 42, 43, 44, 45, 18, 46, 47, 48, 49, 50, 51, 52, 53, 54, 55, 56, 57, 58, 59, 60, 61, 62, 63, 64, 65, 66, 67, 68, 69, 70, 71, 72, 73, 74, 75, 76, 77, 78, 79, 80, 81, 82, 83, 84, 85, 86, 87, 88, 89, 90, 91, 92, 93, 94, 95, 96, 97, 98, 99, 100, 101, 102, 103, 104, 105, 106, 107, 108, 109, 110] (by decide +kernel) (by decide +kernel)) (goodIn_sub (fun _ h => List.mem_cons_of_mem _ (List.mem_append_left _ (List.mem_append_right _ h))) (gsub_f _))) (goodIn_sub (fun _ h => List.mem_cons_of_mem _ (List.mem_append_right _ h)) (gsub_f _))
set_option maxRecDepth 20000 in
theorem gX11_acceptedWords_X11_acceptedAll : GoodIn wsX11_acceptedWords (wsV RX11 266 RX11 yX11_acceptedAll wsX11_acceptedAll) := goodIn_app (goodIn_r _ [22, 23, 24, 4] (by decide +kernel) (by decide +kernel)) ggX11_acceptedWords_X11_acceptedAll
theorem dX11_acceptedWords_0 : decode cX11_acceptedWords 0 = .ok (.aload_n 0, 1) := by decide +kernel
theorem dX11_acceptedWords_1 : decode cX11_acceptedWords 1 = .ok (.iconst 0, 1) := by decide +kernel
theorem dX11_acceptedWords_2 : decode cX11_acceptedWords 2 = .ok (.putfield 1, 3) := by decide +kernel
theorem dX11_acceptedWords_5 : decode cX11_acceptedWords 5 = .ok (.iload_n 1, 1) := by decide +kernel
theorem dX11_acceptedWords_6 : decode cX11_acceptedWords 6 = .ok (.iconst 0, 1) := by decide +kernel
theorem dX11_acceptedWords_7 : decode cX11_acceptedWords 7 = .ok (.iconst 2, 1) := by decide +kernel
theorem dX11_acceptedWords_8 : decode cX11_acceptedWords 8 = .ok (.invokestatic 105, 3) := by decide +kernel
theorem dX11_acceptedWords_11 : decode cX11_acceptedWords 11 = .ok (.ifCond .eq 13, 3) := by decide +kernel
theorem dX11_acceptedWords_14 : decode cX11_acceptedWords 14 = .ok (.iload_n 2, 1) := by decide +kernel
theorem dX11_acceptedWords_15 : decode cX11_acceptedWords 15 = .ok (.iconst 0, 1) := by decide +kernel
theorem dX11_acceptedWords_16 : decode cX11_acceptedWords 16 = .ok (.bipush 7, 2) := by decide +kernel
theorem dX11_acceptedWords_18 : decode cX11_acceptedWords 18 = .ok (.invokestatic 105, 3) := by decide +kernel
theorem dX11_acceptedWords_21 : decode cX11_acceptedWords 21 = .ok (.ifCond .ne 10, 3) := by decide +kernel
theorem dX11_acceptedWords_24 : decode cX11_acceptedWords 24 = .ok (.aload_n 0, 1) := by decide +kernel
theorem dX11_acceptedWords_25 : decode cX11_acceptedWords 25 = .ok (.iconst 1, 1) := by decide +kernel
theorem dX11_acceptedWords_26 : decode cX11_acceptedWords 26 = .ok (.invokevirtual 109, 3) := by decide +kernel
theorem dX11_acceptedWords_29 : decode cX11_acceptedWords 29 = .ok (.i2l, 1) := by decide +kernel
theorem dX11_acceptedWords_30 : decode cX11_acceptedWords 30 = .ok (.lreturn, 1) := by decide +kernel
theorem dX11_acceptedWords_31 : decode cX11_acceptedWords 31 = .ok (.aload_n 0, 1) := by decide +kernel
theorem dX11_acceptedWords_32 : decode cX11_acceptedWords 32 = .ok (.iload_n 1, 1) := by decide +kernel
theorem dX11_acceptedWords_33 : decode cX11_acceptedWords 33 = .ok (.invokevirtual 175, 3) := by decide +kernel
theorem dX11_acceptedWords_36 : decode cX11_acceptedWords 36 = .ok (.ifCond .eq 12, 3) := by decide +kernel
theorem dX11_acceptedWords_39 : decode cX11_acceptedWords 39 = .ok (.aload_n 0, 1) := by decide +kernel
theorem dX11_acceptedWords_40 : decode cX11_acceptedWords 40 = .ok (.iconst 2, 1) := by decide +kernel
theorem dX11_acceptedWords_41 : decode cX11_acceptedWords 41 = .ok (.invokevirtual 109, 3) := by decide +kernel
theorem dX11_acceptedWords_44 : decode cX11_acceptedWords 44 = .ok (.i2l, 1) := by decide +kernel
theorem dX11_acceptedWords_45 : decode cX11_acceptedWords 45 = .ok (.goto 9, 3) := by decide +kernel
theorem dX11_acceptedWords_48 : decode cX11_acceptedWords 48 = .ok (.aload_n 0, 1) := by decide +kernel
theorem dX11_acceptedWords_49 : decode cX11_acceptedWords 49 = .ok (.iload_n 1, 1) := by decide +kernel
theorem dX11_acceptedWords_50 : decode cX11_acceptedWords 50 = .ok (.iload_n 2, 1) := by decide +kernel
theorem dX11_acceptedWords_51 : decode cX11_acceptedWords 51 = .ok (.invokevirtual 266, 3) := by decide +kernel
theorem dX11_acceptedWords_54 : decode cX11_acceptedWords 54 = .ok (.lreturn, 1) := by decide +kernel
set_option maxRecDepth 20000 in
theorem ggX11_isOpen_X11_layReached : GoodIn wsX11_isOpen wsX11_layReached := goodIn_ca (goodIn_r _ [7, 8, 9, 10, 6, 11, 12, 13, 14, 15, 16, 17, 18, 19, 20, 21, 22, 23, 44, 45, 46, 47, 48, 49, 50, 51, 52, 53, 54, 55, 56, 57, 58, 59, 60, 61, 62, 63, 64, 65, 66, 67, 68, 69, 70, 71, 72, 73] (by decide +kernel) (by decide +kernel)) (goodIn_sub (fun _ h => List.mem_cons_of_mem _ (List.mem_append_right _ h)) (gsub_f _))
set_option maxRecDepth 20000 in
theorem gX11_isOpen_X11_layReached : GoodIn wsX11_isOpen (wsV RX11 178 RX11 yX11_layReached wsX11_layReached) := goodIn_app (goodIn_r _ [3, 4, 5, 6] (by decide +kernel) (by decide +kernel)) ggX11_isOpen_X11_layReached
set_option maxRecDepth 20000 in
theorem ggX11_isOpen_X11_power : GoodIn wsX11_isOpen wsX11_power := goodIn_r _ [26] (by decide +kernel) (by decide +kernel)
set_option maxRecDepth 20000 in
theorem gX11_isOpen_X11_power : GoodIn wsX11_isOpen (va_wsS RX11 259 yX11_power wsX11_power) := goodIn_app (goodIn_r _ [24, 25, 6] (by decide +kernel) (by decide +kernel)) ggX11_isOpen_X11_power
set_option maxRecDepth 20000 in
theorem ggX11_isOpen_X11_layOther : GoodIn wsX11_isOpen wsX11_layOther := goodIn_ca (goodIn_r _ [30, 1, 44, 45, 46, 47, 48, 49, 50, 51, 52, 53, 54, 55, 56, 57, 58, 59, 60, 61, 62, 63, 64, 65, 66, 67, 68, 69, 70, 71, 72, 73] (by decide +kernel) (by decide +kernel)) (goodIn_sub (fun _ h => List.mem_cons_of_mem _ (List.mem_append_right _ h)) (gsub_f _))
set_option maxRecDepth 20000 in
theorem gX11_isOpen_X11_layOther : GoodIn wsX11_isOpen (wsV RX11 262 RX11 yX11_layOther wsX11_layOther) := goodIn_app (goodIn_r _ [27, 28, 29, 6] (by decide +kernel) (by decide +kernel)) ggX11_isOpen_X11_layOther
set_option maxRecDepth 20000 in
theorem ggX11_isOpen_X11_isJumping : GoodIn wsX11_isOpen wsX11_isJumping := goodIn_ca (goodIn_r _ [34, 35, 36, 37, 38, 6, 39, 8, 23, 9, 10, 11, 44, 45, 46, 47, 48, 49, 50, 51, 52, 53, 54, 55, 56, 57, 58, 59, 60, 61, 62, 63, 64, 65, 66, 67, 68, 69, 70, 71, 72, 73] (by decide +kernel) (by decide +kernel)) (goodIn_sub (fun _ h => List.mem_cons_of_mem _ (List.mem_append_right _ h)) (gsub_f _))
set_option maxRecDepth 20000 in
theorem gX11_isOpen_X11_isJumping : GoodIn wsX11_isOpen (wsV RX11 164 RX11 yX11_isJumping wsX11_isJumping) := goodIn_app (goodIn_r _ [31, 32, 33, 6] (by decide +kernel) (by decide +kernel)) ggX11_isOpen_X11_isJumping
set_option maxRecDepth 20000 in
theorem ggX11_isOpen_X11_isInOrder : GoodIn wsX11_isOpen wsX11_isInOrder := goodIn_ca (goodIn_r _ [43, 23, 12, 13, 14, 6, 15, 16, 17, 18, 19, 20, 21, 22, 44, 45, 46, 47, 48, 49, 50, 51, 52, 53, 54, 55, 56, 57, 58, 59, 60, 61, 62, 63, 64, 65, 66, 67, 68, 69, 70, 71, 72, 73] (by decide +kernel) (by decide +kernel)) (goodIn_sub (fun _ h => List.mem_cons_of_mem _ (List.mem_append_right _ h)) (gsub_f _))
set_option maxRecDepth 20000 in
theorem gX11_isOpen_X11_isInOrder : GoodIn wsX11_isOpen (wsV RX11 160 RX11 yX11_isInOrder wsX11_isInOrder) := goodIn_app (goodIn_r _ [40, 41, 42, 6] (by decide +kernel) (by decide +kernel)) ggX11_isOpen_X11_isInOrder
theorem dX11_isOpen_0 : decode cX11_isOpen 0 = .ok (.aload_n 0, 1) := by decide +kernel
theorem dX11_isOpen_1 : decode cX11_isOpen 1 = .ok (.invokevirtual 178, 3) := by decide +kernel
theorem dX11_isOpen_4 : decode cX11_isOpen 4 = .ok (.iconst 0, 1) := by decide +kernel
theorem dX11_isOpen_5 : decode cX11_isOpen 5 = .ok (.istore_n 2, 1) := by decide +kernel
theorem dX11_isOpen_6 : decode cX11_isOpen 6 = .ok (.iload_n 2, 1) := by decide +kernel
theorem dX11_isOpen_7 : decode cX11_isOpen 7 = .ok (.iload_n 1, 1) := by decide +kernel
theorem dX11_isOpen_8 : decode cX11_isOpen 8 = .ok (.if_icmp .gt 65, 3) := by decide +kernel
theorem dX11_isOpen_11 : decode cX11_isOpen 11 = .ok (.iconst 0, 1) := by decide +kernel
theorem dX11_isOpen_12 : decode cX11_isOpen 12 = .ok (.istore_n 3, 1) := by decide +kernel
theorem dX11_isOpen_13 : decode cX11_isOpen 13 = .ok (.iload_n 3, 1) := by decide +kernel
theorem dX11_isOpen_14 : decode cX11_isOpen 14 = .ok (.iload_n 2, 1) := by decide +kernel
theorem dX11_isOpen_15 : decode cX11_isOpen 15 = .ok (.invokestatic 259, 3) := by decide +kernel
theorem dX11_isOpen_18 : decode cX11_isOpen 18 = .ok (.if_icmp .ge 49, 3) := by decide +kernel
theorem dX11_isOpen_21 : decode cX11_isOpen 21 = .ok (.aload_n 0, 1) := by decide +kernel
theorem dX11_isOpen_22 : decode cX11_isOpen 22 = .ok (.iload_n 3, 1) := by decide +kernel
theorem dX11_isOpen_23 : decode cX11_isOpen 23 = .ok (.iload_n 2, 1) := by decide +kernel
theorem dX11_isOpen_24 : decode cX11_isOpen 24 = .ok (.invokevirtual 262, 3) := by decide +kernel
theorem dX11_isOpen_27 : decode cX11_isOpen 27 = .ok (.aload_n 0, 1) := by decide +kernel
theorem dX11_isOpen_28 : decode cX11_isOpen 28 = .ok (.aload_n 0, 1) := by decide +kernel
theorem dX11_isOpen_29 : decode cX11_isOpen 29 = .ok (.getfield 48, 3) := by decide +kernel
theorem dX11_isOpen_32 : decode cX11_isOpen 32 = .ok (.iload_n 2, 1) := by decide +kernel
theorem dX11_isOpen_33 : decode cX11_isOpen 33 = .ok (.invokevirtual 164, 3) := by decide +kernel
theorem dX11_isOpen_36 : decode cX11_isOpen 36 = .ok (.ifCond .eq 25, 3) := by decide +kernel
theorem dX11_isOpen_39 : decode cX11_isOpen 39 = .ok (.aload_n 0, 1) := by decide +kernel
theorem dX11_isOpen_40 : decode cX11_isOpen 40 = .ok (.aload_n 0, 1) := by decide +kernel
theorem dX11_isOpen_41 : decode cX11_isOpen 41 = .ok (.getfield 48, 3) := by decide +kernel
theorem dX11_isOpen_44 : decode cX11_isOpen 44 = .ok (.iload_n 2, 1) := by decide +kernel
theorem dX11_isOpen_45 : decode cX11_isOpen 45 = .ok (.invokevirtual 160, 3) := by decide +kernel
theorem dX11_isOpen_48 : decode cX11_isOpen 48 = .ok (.ifCond .eq 6, 3) := by decide +kernel
theorem dX11_isOpen_51 : decode cX11_isOpen 51 = .ok (.goto 10, 3) := by decide +kernel
theorem dX11_isOpen_54 : decode cX11_isOpen 54 = .ok (.aload_n 0, 1) := by decide +kernel
theorem dX11_isOpen_55 : decode cX11_isOpen 55 = .ok (.iload_n 2, 1) := by decide +kernel
theorem dX11_isOpen_56 : decode cX11_isOpen 56 = .ok (.putfield 102, 3) := by decide +kernel
theorem dX11_isOpen_59 : decode cX11_isOpen 59 = .ok (.iconst 1, 1) := by decide +kernel
theorem dX11_isOpen_60 : decode cX11_isOpen 60 = .ok (.ireturn, 1) := by decide +kernel
theorem dX11_isOpen_61 : decode cX11_isOpen 61 = .ok (.iinc 3 1, 3) := by decide +kernel
theorem dX11_isOpen_64 : decode cX11_isOpen 64 = .ok (.goto (-51), 3) := by decide +kernel
theorem dX11_isOpen_67 : decode cX11_isOpen 67 = .ok (.iinc 2 1, 3) := by decide +kernel
theorem dX11_isOpen_70 : decode cX11_isOpen 70 = .ok (.goto (-64), 3) := by decide +kernel
theorem dX11_isOpen_73 : decode cX11_isOpen 73 = .ok (.iconst 0, 1) := by decide +kernel
theorem dX11_isOpen_74 : decode cX11_isOpen 74 = .ok (.ireturn, 1) := by decide +kernel
set_option maxRecDepth 20000 in
theorem ggX11_isClosed_X11_in : GoodIn wsX11_isClosed wsX11_in := goodIn_r _ [5] (by decide +kernel) (by decide +kernel)
set_option maxRecDepth 20000 in
theorem gX11_isClosed_X11_in : GoodIn wsX11_isClosed (va_wsS RX11 105 yX11_in wsX11_in) := goodIn_app (goodIn_r _ [2, 3, 4] (by decide +kernel) (by decide +kernel)) ggX11_isClosed_X11_in
set_option maxRecDepth 20000 in
theorem ggX11_isClosed_X11_isOpen : GoodIn wsX11_isClosed wsX11_isOpen := goodIn_ca (goodIn_r _ [9, 10, 11, 12, 13, 14, 4, 15, 16, 17, 18, 19, 20, 21, 22, 23, 24, 25, 26, 27, 28, 29, 30, 31, 32, 33, 34, 35, 36, 37, 38, 39, 40, 41, 42, 43, 44, 45, 46, 47, 48, 49, 50, 51, 56, 57, 58, 59, 60, 61, 62, 63, 64, 65, 66, 67, 68, 69, 70, 71, 72, 73, 74, 75, 76, 77, 78, 79, 80, 81, 82, 83, 84, 85] (by decide +kernel) (by decide +kernel)) (goodIn_sub (fun _ h => List.mem_cons_of_mem _ (List.mem_append_right _ h)) (gsub_f _))
set_option maxRecDepth 20000 in
theorem gX11_isClosed_X11_isOpen : GoodIn wsX11_isClosed (wsV RX11 269 RX11 yX11_isOpen wsX11_isOpen) := goodIn_app (goodIn_r _ [6, 7, 8, 4] (by decide +kernel) (by decide +kernel)) ggX11_isClosed_X11_isOpen
set_option maxRecDepth 20000 in
theorem ggX11_isClosed_X11_fails : GoodIn wsX11_isClosed wsX11_fails := goodIn_r _ [55, 1, 56, 57, 58, 59, 60, 61, 62, 63, 64, 65, 66, 67, 68, 69, 70, 71, 72, 73, 74, 75, 76, 77, 78, 79, 80, 81, 82, 83, 84, 85] (by decide +kernel) (by decide +kernel)
set_option maxRecDepth 20000 in
theorem gX11_isClosed_X11_fails : GoodIn wsX11_isClosed (wsV RX11 109 RX11 yX11_fails wsX11_fails) := goodIn_app (goodIn_r _ [52, 53, 54, 4] (by decide +kernel) (by decide +kernel)) ggX11_isClosed_X11_fails
theorem dX11_isClosed_0 : decode cX11_isClosed 0 = .ok (.aload_n 0, 1) := by decide +kernel
theorem dX11_isClosed_1 : decode cX11_isClosed 1 = .ok (.iconst 0, 1) := by decide +kernel
theorem dX11_isClosed_2 : decode cX11_isClosed 2 = .ok (.putfield 1, 3) := by decide +kernel
theorem dX11_isClosed_5 : decode cX11_isClosed 5 = .ok (.iload_n 1, 1) := by decide +kernel
theorem dX11_isClosed_6 : decode cX11_isClosed 6 = .ok (.iconst 0, 1) := by decide +kernel
theorem dX11_isClosed_7 : decode cX11_isClosed 7 = .ok (.bipush 7, 2) := by decide +kernel
theorem dX11_isClosed_9 : decode cX11_isClosed 9 = .ok (.invokestatic 105, 3) := by decide +kernel
theorem dX11_isClosed_12 : decode cX11_isClosed 12 = .ok (.ifCond .eq 19, 3) := by decide +kernel
theorem dX11_isClosed_15 : decode cX11_isClosed 15 = .ok (.aload_n 0, 1) := by decide +kernel
theorem dX11_isClosed_16 : decode cX11_isClosed 16 = .ok (.iload_n 1, 1) := by decide +kernel
theorem dX11_isClosed_17 : decode cX11_isClosed 17 = .ok (.invokevirtual 269, 3) := by decide +kernel
theorem dX11_isClosed_20 : decode cX11_isClosed 20 = .ok (.ifCond .ne 7, 3) := by decide +kernel
theorem dX11_isClosed_23 : decode cX11_isClosed 23 = .ok (.iconst 1, 1) := by decide +kernel
theorem dX11_isClosed_24 : decode cX11_isClosed 24 = .ok (.goto 20, 3) := by decide +kernel
theorem dX11_isClosed_27 : decode cX11_isClosed 27 = .ok (.iconst 0, 1) := by decide +kernel
theorem dX11_isClosed_28 : decode cX11_isClosed 28 = .ok (.goto 16, 3) := by decide +kernel
theorem dX11_isClosed_31 : decode cX11_isClosed 31 = .ok (.aload_n 0, 1) := by decide +kernel
theorem dX11_isClosed_32 : decode cX11_isClosed 32 = .ok (.iconst 1, 1) := by decide +kernel
theorem dX11_isClosed_33 : decode cX11_isClosed 33 = .ok (.invokevirtual 109, 3) := by decide +kernel
theorem dX11_isClosed_36 : decode cX11_isClosed 36 = .ok (.ifCond .le 7, 3) := by decide +kernel
theorem dX11_isClosed_39 : decode cX11_isClosed 39 = .ok (.iconst 1, 1) := by decide +kernel
theorem dX11_isClosed_40 : decode cX11_isClosed 40 = .ok (.goto 4, 3) := by decide +kernel
theorem dX11_isClosed_43 : decode cX11_isClosed 43 = .ok (.iconst 0, 1) := by decide +kernel
theorem dX11_isClosed_44 : decode cX11_isClosed 44 = .ok (.ireturn, 1) := by decide +kernel
set_option maxRecDepth 20000 in
theorem ggX11_takeOpenWord_X11_in : GoodIn wsX11_takeOpenWord wsX11_in := goodIn_r _ [9] (by decide +kernel) (by decide +kernel)
set_option maxRecDepth 20000 in
theorem gX11_takeOpenWord_X11_in : GoodIn wsX11_takeOpenWord (va_wsS RX11 105 yX11_in wsX11_in) := goodIn_app (goodIn_r _ [6, 7, 8] (by decide +kernel) (by decide +kernel)) ggX11_takeOpenWord_X11_in
set_option maxRecDepth 20000 in
theorem ggX11_takeOpenWord_X11_fails : GoodIn wsX11_takeOpenWord wsX11_fails := goodIn_r _ [13, 1, 58, 59, 60, 61, 62, 63, 64, 65, 66, 67, 68, 69, 70, 71, 72, 73, 74, 75, 76, 77, 78, 79, 80, 81, 82, 83, 84, 85, 86, 87] (by decide +kernel) (by decide +kernel)
set_option maxRecDepth 20000 in
theorem gX11_takeOpenWord_X11_fails : GoodIn wsX11_takeOpenWord (wsV RX11 109 RX11 yX11_fails wsX11_fails) := goodIn_app (goodIn_r _ [10, 11, 12, 8] (by decide +kernel) (by decide +kernel)) ggX11_takeOpenWord_X11_fails
set_option maxRecDepth 20000 in
theorem ggX11_takeOpenWord_X11_isOpen : GoodIn wsX11_takeOpenWord wsX11_isOpen := goodIn_ca (goodIn_r _ [17, 5, 2, 18, 19, 20, 8, 21, 22, 23, 24, 25, 26, 27, 28, 29, 30, 31, 32, 33, 34, 35, 36, 37, 38, 39, 40, 41, 42, 43, 44, 45, 46, 47, 48, 49, 50, 51, 52, 53, 54, 55, 56, 57, 58, 59, 60, 61, 62, 63, 64, 65, 66, 67, 68, 69, 70, 71, 72, 73, 74, 75, 76, 77, 78, 79, 80, 81, 82, 83, 84, 85, 86, 87] (by decide +kernel) (by decide +kernel)) (goodIn_sub (fun _ h => List.mem_cons_of_mem _ (List.mem_append_right _ h)) (gsub_f _))
set_option maxRecDepth 20000 in
theorem gX11_takeOpenWord_X11_isOpen : GoodIn wsX11_takeOpenWord (wsV RX11 269 RX11 yX11_isOpen wsX11_isOpen) := goodIn_app (goodIn_r _ [14, 15, 16, 8] (by decide +kernel) (by decide +kernel)) ggX11_takeOpenWord_X11_isOpen
theorem dX11_takeOpenWord_0 : decode cX11_takeOpenWord 0 = .ok (.aload_n 0, 1) := by decide +kernel
theorem dX11_takeOpenWord_1 : decode cX11_takeOpenWord 1 = .ok (.iconst 0, 1) := by decide +kernel
theorem dX11_takeOpenWord_2 : decode cX11_takeOpenWord 2 = .ok (.putfield 1, 3) := by decide +kernel
theorem dX11_takeOpenWord_5 : decode cX11_takeOpenWord 5 = .ok (.iload_n 1, 1) := by decide +kernel
theorem dX11_takeOpenWord_6 : decode cX11_takeOpenWord 6 = .ok (.iconst 0, 1) := by decide +kernel
theorem dX11_takeOpenWord_7 : decode cX11_takeOpenWord 7 = .ok (.bipush 7, 2) := by decide +kernel
theorem dX11_takeOpenWord_9 : decode cX11_takeOpenWord 9 = .ok (.invokestatic 105, 3) := by decide +kernel
theorem dX11_takeOpenWord_12 : decode cX11_takeOpenWord 12 = .ok (.ifCond .ne 9, 3) := by decide +kernel
theorem dX11_takeOpenWord_15 : decode cX11_takeOpenWord 15 = .ok (.aload_n 0, 1) := by decide +kernel
theorem dX11_takeOpenWord_16 : decode cX11_takeOpenWord 16 = .ok (.iconst 1, 1) := by decide +kernel
theorem dX11_takeOpenWord_17 : decode cX11_takeOpenWord 17 = .ok (.invokevirtual 109, 3) := by decide +kernel
theorem dX11_takeOpenWord_20 : decode cX11_takeOpenWord 20 = .ok (.ireturn, 1) := by decide +kernel
theorem dX11_takeOpenWord_21 : decode cX11_takeOpenWord 21 = .ok (.aload_n 0, 1) := by decide +kernel
theorem dX11_takeOpenWord_22 : decode cX11_takeOpenWord 22 = .ok (.iload_n 1, 1) := by decide +kernel
theorem dX11_takeOpenWord_23 : decode cX11_takeOpenWord 23 = .ok (.invokevirtual 269, 3) := by decide +kernel
theorem dX11_takeOpenWord_26 : decode cX11_takeOpenWord 26 = .ok (.ifCond .ne 9, 3) := by decide +kernel
theorem dX11_takeOpenWord_29 : decode cX11_takeOpenWord 29 = .ok (.aload_n 0, 1) := by decide +kernel
theorem dX11_takeOpenWord_30 : decode cX11_takeOpenWord 30 = .ok (.iconst 2, 1) := by decide +kernel
theorem dX11_takeOpenWord_31 : decode cX11_takeOpenWord 31 = .ok (.invokevirtual 109, 3) := by decide +kernel
theorem dX11_takeOpenWord_34 : decode cX11_takeOpenWord 34 = .ok (.ireturn, 1) := by decide +kernel
theorem dX11_takeOpenWord_35 : decode cX11_takeOpenWord 35 = .ok (.aload_n 0, 1) := by decide +kernel
theorem dX11_takeOpenWord_36 : decode cX11_takeOpenWord 36 = .ok (.aload_n 0, 1) := by decide +kernel
theorem dX11_takeOpenWord_37 : decode cX11_takeOpenWord 37 = .ok (.getfield 102, 3) := by decide +kernel
theorem dX11_takeOpenWord_40 : decode cX11_takeOpenWord 40 = .ok (.putfield 51, 3) := by decide +kernel
theorem dX11_takeOpenWord_43 : decode cX11_takeOpenWord 43 = .ok (.iconst 0, 1) := by decide +kernel
theorem dX11_takeOpenWord_44 : decode cX11_takeOpenWord 44 = .ok (.istore_n 2, 1) := by decide +kernel
theorem dX11_takeOpenWord_45 : decode cX11_takeOpenWord 45 = .ok (.iload_n 2, 1) := by decide +kernel
theorem dX11_takeOpenWord_46 : decode cX11_takeOpenWord 46 = .ok (.aload_n 0, 1) := by decide +kernel
theorem dX11_takeOpenWord_47 : decode cX11_takeOpenWord 47 = .ok (.getfield 51, 3) := by decide +kernel
theorem dX11_takeOpenWord_50 : decode cX11_takeOpenWord 50 = .ok (.if_icmp .ge 21, 3) := by decide +kernel
theorem dX11_takeOpenWord_53 : decode cX11_takeOpenWord 53 = .ok (.aload_n 0, 1) := by decide +kernel
theorem dX11_takeOpenWord_54 : decode cX11_takeOpenWord 54 = .ok (.getfield 45, 3) := by decide +kernel
theorem dX11_takeOpenWord_57 : decode cX11_takeOpenWord 57 = .ok (.iload_n 2, 1) := by decide +kernel
theorem dX11_takeOpenWord_58 : decode cX11_takeOpenWord 58 = .ok (.aload_n 0, 1) := by decide +kernel
theorem dX11_takeOpenWord_59 : decode cX11_takeOpenWord 59 = .ok (.getfield 48, 3) := by decide +kernel
theorem dX11_takeOpenWord_62 : decode cX11_takeOpenWord 62 = .ok (.iload_n 2, 1) := by decide +kernel
theorem dX11_takeOpenWord_63 : decode cX11_takeOpenWord 63 = .ok (.iaload, 1) := by decide +kernel
theorem dX11_takeOpenWord_64 : decode cX11_takeOpenWord 64 = .ok (.iastore, 1) := by decide +kernel
theorem dX11_takeOpenWord_65 : decode cX11_takeOpenWord 65 = .ok (.iinc 2 1, 3) := by decide +kernel
theorem dX11_takeOpenWord_68 : decode cX11_takeOpenWord 68 = .ok (.goto (-23), 3) := by decide +kernel
theorem dX11_takeOpenWord_71 : decode cX11_takeOpenWord 71 = .ok (.aload_n 0, 1) := by decide +kernel
theorem dX11_takeOpenWord_72 : decode cX11_takeOpenWord 72 = .ok (.getfield 51, 3) := by decide +kernel
theorem dX11_takeOpenWord_75 : decode cX11_takeOpenWord 75 = .ok (.ireturn, 1) := by decide +kernel
set_option maxRecDepth 20000 in
theorem ggX11_density_X11_in : GoodIn wsX11_density wsX11_in := goodIn_r _ [5] (by decide +kernel) (by decide +kernel)
set_option maxRecDepth 20000 in
theorem gX11_density_X11_in : GoodIn wsX11_density (va_wsS RX11 105 yX11_in wsX11_in) := goodIn_app (goodIn_r _ [2, 3, 4] (by decide +kernel) (by decide +kernel)) ggX11_density_X11_in
set_option maxRecDepth 20000 in
theorem ggX11_density_X11_fails : GoodIn wsX11_density wsX11_fails := goodIn_r _ [9, 1, 81, 82, 83, 84, 85, 86, 87, 88, 89, 90, 91, 92, 93, 94, 95, 96, 97, 98, 99, 100, 101, 102, 103, 104, 105, 106, 107, 108, 109, 110] (by decide +kernel) (by decide +kernel)
set_option maxRecDepth 20000 in
theorem gX11_density_X11_fails : GoodIn wsX11_density (wsV RX11 109 RX11 yX11_fails wsX11_fails) := goodIn_app (goodIn_r _ [6, 7, 8, 4] (by decide +kernel) (by decide +kernel)) ggX11_density_X11_fails
set_option maxRecDepth 20000 in
theorem ggX11_density_X11_lacksMode : GoodIn wsX11_density wsX11_lacksMode := goodIn_ca (goodIn_r _ [13, 14, 15, 16, 4, 17, 18, 19, 20, 21, 81, 82, 83, 84, 85, 86, 87, 88, 89, 90, 91, 92, 93, 94, 95, 96, 97, 98, 99, 100, 101, 102, 103, 104, 105, 106, 107, 108, 109, 110] (by decide +kernel) (by decide +kernel)) (goodIn_sub (fun _ h => List.mem_cons_of_mem _ (List.mem_append_left _ (List.mem_append_right _ h))) (gsub_f _))
set_option maxRecDepth 20000 in
theorem gX11_density_X11_lacksMode : GoodIn wsX11_density (wsV RX11 175 RX11 yX11_lacksMode wsX11_lacksMode) := goodIn_app (goodIn_r _ [10, 11, 12, 4] (by decide +kernel) (by decide +kernel)) ggX11_density_X11_lacksMode
set_option maxRecDepth 20000 in
theorem ggX11_density_X11_acceptedAll : GoodIn wsX11_density wsX11_acceptedAll := goodIn_ca (goodIn_ca (goodIn_r _ [25, 26, 27, 28, 29, 4, 30, 31, 32, 33, 34, 35, 36, 37, 38, 39, 40, 41, 42, 43, 44, 45, 18, 46, 47, 48, 49, 50, 51, 52, 53, 54, 55, 56, 57, 58, 59, 60, 61, 62, 63, 64, 65, 66, 67, 68, 69, 70, 71, 72, 73, 74, 75, 76, 77, 78, 79, 80, 81, 82, 83, 84, 85, 86, 87, 88, 89, 90, 91, 92, 93, 94, 95, 96, 97, 98, 99, 100, 101, 102, 103, 104, 105, 106, 107, 108, 109, 110] (by decide +kernel) (by decide +kernel)) (goodIn_sub (fun _ h => List.mem_cons_of_mem _ (List.mem_append_left _ (List.mem_append_right _ h))) (gsub_f _))) (goodIn_sub (fun _ h => List.mem_cons_of_mem _ (List.mem_append_right _ h)) (gsub_f _))
set_option maxRecDepth 20000 in
theorem gX11_density_X11_acceptedAll : GoodIn wsX11_density (wsV RX11 266 RX11 yX11_acceptedAll wsX11_acceptedAll) := goodIn_app (goodIn_r _ [22, 23, 24, 4] (by decide +kernel) (by decide +kernel)) ggX11_density_X11_acceptedAll
set_option maxRecDepth 20000 in
theorem ggX11_density_X11_power : GoodIn wsX11_density wsX11_power := goodIn_r _ [48] (by decide +kernel) (by decide +kernel)
set_option maxRecDepth 20000 in
theorem gX11_density_X11_power : GoodIn wsX11_density (va_wsS RX11 259 yX11_power wsX11_power) := goodIn_app (goodIn_r _ [46, 47, 4] (by decide +kernel) (by decide +kernel)) ggX11_density_X11_power
theorem dX11_density_0 : decode cX11_density 0 = .ok (.aload_n 0, 1) := by decide +kernel
theorem dX11_density_1 : decode cX11_density 1 = .ok (.iconst 0, 1) := by decide +kernel
theorem dX11_density_2 : decode cX11_density 2 = .ok (.putfield 1, 3) := by decide +kernel
theorem dX11_density_5 : decode cX11_density 5 = .ok (.iload_n 1, 1) := by decide +kernel
theorem dX11_density_6 : decode cX11_density 6 = .ok (.iconst 0, 1) := by decide +kernel
theorem dX11_density_7 : decode cX11_density 7 = .ok (.iconst 2, 1) := by decide +kernel
theorem dX11_density_8 : decode cX11_density 8 = .ok (.invokestatic 105, 3) := by decide +kernel
theorem dX11_density_11 : decode cX11_density 11 = .ok (.ifCond .eq 13, 3) := by decide +kernel
theorem dX11_density_14 : decode cX11_density 14 = .ok (.iload_n 2, 1) := by decide +kernel
theorem dX11_density_15 : decode cX11_density 15 = .ok (.iconst 0, 1) := by decide +kernel
theorem dX11_density_16 : decode cX11_density 16 = .ok (.bipush 7, 2) := by decide +kernel
theorem dX11_density_18 : decode cX11_density 18 = .ok (.invokestatic 105, 3) := by decide +kernel
theorem dX11_density_21 : decode cX11_density 21 = .ok (.ifCond .ne 10, 3) := by decide +kernel
theorem dX11_density_24 : decode cX11_density 24 = .ok (.aload_n 0, 1) := by decide +kernel
theorem dX11_density_25 : decode cX11_density 25 = .ok (.iconst 1, 1) := by decide +kernel
theorem dX11_density_26 : decode cX11_density 26 = .ok (.invokevirtual 109, 3) := by decide +kernel
theorem dX11_density_29 : decode cX11_density 29 = .ok (.i2d, 1) := by decide +kernel
theorem dX11_density_30 : decode cX11_density 30 = .ok (.dreturn, 1) := by decide +kernel
theorem dX11_density_31 : decode cX11_density 31 = .ok (.aload_n 0, 1) := by decide +kernel
theorem dX11_density_32 : decode cX11_density 32 = .ok (.iload_n 1, 1) := by decide +kernel
theorem dX11_density_33 : decode cX11_density 33 = .ok (.invokevirtual 175, 3) := by decide +kernel
theorem dX11_density_36 : decode cX11_density 36 = .ok (.ifCond .eq 10, 3) := by decide +kernel
theorem dX11_density_39 : decode cX11_density 39 = .ok (.aload_n 0, 1) := by decide +kernel
theorem dX11_density_40 : decode cX11_density 40 = .ok (.iconst 2, 1) := by decide +kernel
theorem dX11_density_41 : decode cX11_density 41 = .ok (.invokevirtual 109, 3) := by decide +kernel
theorem dX11_density_44 : decode cX11_density 44 = .ok (.i2d, 1) := by decide +kernel
theorem dX11_density_45 : decode cX11_density 45 = .ok (.dreturn, 1) := by decide +kernel
theorem dX11_density_46 : decode cX11_density 46 = .ok (.aload_n 0, 1) := by decide +kernel
theorem dX11_density_47 : decode cX11_density 47 = .ok (.iload_n 1, 1) := by decide +kernel
theorem dX11_density_48 : decode cX11_density 48 = .ok (.iload_n 2, 1) := by decide +kernel
theorem dX11_density_49 : decode cX11_density 49 = .ok (.invokevirtual 266, 3) := by decide +kernel
theorem dX11_density_52 : decode cX11_density 52 = .ok (.l2d, 1) := by decide +kernel
theorem dX11_density_53 : decode cX11_density 53 = .ok (.iload_n 2, 1) := by decide +kernel
theorem dX11_density_54 : decode cX11_density 54 = .ok (.invokestatic 259, 3) := by decide +kernel
theorem dX11_density_57 : decode cX11_density 57 = .ok (.i2d, 1) := by decide +kernel
theorem dX11_density_58 : decode cX11_density 58 = .ok (.ddiv, 1) := by decide +kernel
theorem dX11_density_59 : decode cX11_density 59 = .ok (.dreturn, 1) := by decide +kernel
set_option maxRecDepth 20000 in
theorem ggX11_averageMinimum_X11_layMinimal : GoodIn wsX11_averageMinimum wsX11_layMinimal := goodIn_ca (goodIn_r _ [7, 2, 8, 9, 10, 6, 11, 12, 13, 14, 15, 16, 17, 18, 19, 20, 21, 22, 23, 24, 25, 26, 27, 28, 29, 30, 31, 32, 33, 34, 35, 40, 41, 42, 43, 44, 45, 46, 47, 48, 49, 50, 51, 52, 53, 54, 55, 56, 57, 58, 59, 60, 61, 62, 63, 64, 65, 66, 67, 68, 69] (by decide +kernel) (by decide +kernel)) (goodIn_sub (fun _ h => List.mem_cons_of_mem _ (List.mem_append_right _ h)) (gsub_f _))
set_option maxRecDepth 20000 in
theorem gX11_averageMinimum_X11_layMinimal : GoodIn wsX11_averageMinimum (wsV RX11 219 RX11 yX11_layMinimal wsX11_layMinimal) := goodIn_app (goodIn_r _ [3, 4, 5, 6] (by decide +kernel) (by decide +kernel)) ggX11_averageMinimum_X11_layMinimal
set_option maxRecDepth 20000 in
theorem ggX11_averageMinimum_X11_fails : GoodIn wsX11_averageMinimum wsX11_fails := goodIn_r _ [39, 1, 40, 41, 42, 43, 44, 45, 46, 47, 48, 49, 50, 51, 52, 53, 54, 55, 56, 57, 58, 59, 60, 61, 62, 63, 64, 65, 66, 67, 68, 69] (by decide +kernel) (by decide +kernel)
set_option maxRecDepth 20000 in
theorem gX11_averageMinimum_X11_fails : GoodIn wsX11_averageMinimum (wsV RX11 109 RX11 yX11_fails wsX11_fails) := goodIn_app (goodIn_r _ [36, 37, 38, 6] (by decide +kernel) (by decide +kernel)) ggX11_averageMinimum_X11_fails
theorem dX11_averageMinimum_0 : decode cX11_averageMinimum 0 = .ok (.aload_n 0, 1) := by decide +kernel
theorem dX11_averageMinimum_1 : decode cX11_averageMinimum 1 = .ok (.iconst 0, 1) := by decide +kernel
theorem dX11_averageMinimum_2 : decode cX11_averageMinimum 2 = .ok (.putfield 1, 3) := by decide +kernel
theorem dX11_averageMinimum_5 : decode cX11_averageMinimum 5 = .ok (.aload_n 0, 1) := by decide +kernel
theorem dX11_averageMinimum_6 : decode cX11_averageMinimum 6 = .ok (.invokevirtual 219, 3) := by decide +kernel
theorem dX11_averageMinimum_9 : decode cX11_averageMinimum 9 = .ok (.iconst 0, 1) := by decide +kernel
theorem dX11_averageMinimum_10 : decode cX11_averageMinimum 10 = .ok (.istore_n 1, 1) := by decide +kernel
theorem dX11_averageMinimum_11 : decode cX11_averageMinimum 11 = .ok (.iconst 0, 1) := by decide +kernel
theorem dX11_averageMinimum_12 : decode cX11_averageMinimum 12 = .ok (.istore_n 2, 1) := by decide +kernel
theorem dX11_averageMinimum_13 : decode cX11_averageMinimum 13 = .ok (.iconst 0, 1) := by decide +kernel
theorem dX11_averageMinimum_14 : decode cX11_averageMinimum 14 = .ok (.istore_n 3, 1) := by decide +kernel
theorem dX11_averageMinimum_15 : decode cX11_averageMinimum 15 = .ok (.iload_n 3, 1) := by decide +kernel
theorem dX11_averageMinimum_16 : decode cX11_averageMinimum 16 = .ok (.sipush 1000, 3) := by decide +kernel
theorem dX11_averageMinimum_19 : decode cX11_averageMinimum 19 = .ok (.if_icmp .ge 44, 3) := by decide +kernel
theorem dX11_averageMinimum_22 : decode cX11_averageMinimum 22 = .ok (.aload_n 0, 1) := by decide +kernel
theorem dX11_averageMinimum_23 : decode cX11_averageMinimum 23 = .ok (.getfield 95, 3) := by decide +kernel
theorem dX11_averageMinimum_26 : decode cX11_averageMinimum 26 = .ok (.iload_n 3, 1) := by decide +kernel
theorem dX11_averageMinimum_27 : decode cX11_averageMinimum 27 = .ok (.baload, 1) := by decide +kernel
theorem dX11_averageMinimum_28 : decode cX11_averageMinimum 28 = .ok (.ifCond .ne 6, 3) := by decide +kernel
theorem dX11_averageMinimum_31 : decode cX11_averageMinimum 31 = .ok (.goto 26, 3) := by decide +kernel
theorem dX11_averageMinimum_34 : decode cX11_averageMinimum 34 = .ok (.iinc 1 1, 3) := by decide +kernel
theorem dX11_averageMinimum_37 : decode cX11_averageMinimum 37 = .ok (.iload_n 2, 1) := by decide +kernel
theorem dX11_averageMinimum_38 : decode cX11_averageMinimum 38 = .ok (.iload_n 3, 1) := by decide +kernel
theorem dX11_averageMinimum_39 : decode cX11_averageMinimum 39 = .ok (.bipush 100, 2) := by decide +kernel
theorem dX11_averageMinimum_41 : decode cX11_averageMinimum 41 = .ok (.idiv, 1) := by decide +kernel
theorem dX11_averageMinimum_42 : decode cX11_averageMinimum 42 = .ok (.iload_n 3, 1) := by decide +kernel
theorem dX11_averageMinimum_43 : decode cX11_averageMinimum 43 = .ok (.bipush 10, 2) := by decide +kernel
theorem dX11_averageMinimum_45 : decode cX11_averageMinimum 45 = .ok (.idiv, 1) := by decide +kernel
theorem dX11_averageMinimum_46 : decode cX11_averageMinimum 46 = .ok (.bipush 10, 2) := by decide +kernel
theorem dX11_averageMinimum_48 : decode cX11_averageMinimum 48 = .ok (.irem, 1) := by decide +kernel
theorem dX11_averageMinimum_49 : decode cX11_averageMinimum 49 = .ok (.iadd, 1) := by decide +kernel
theorem dX11_averageMinimum_50 : decode cX11_averageMinimum 50 = .ok (.iload_n 3, 1) := by decide +kernel
theorem dX11_averageMinimum_51 : decode cX11_averageMinimum 51 = .ok (.bipush 10, 2) := by decide +kernel
theorem dX11_averageMinimum_53 : decode cX11_averageMinimum 53 = .ok (.irem, 1) := by decide +kernel
theorem dX11_averageMinimum_54 : decode cX11_averageMinimum 54 = .ok (.iadd, 1) := by decide +kernel
theorem dX11_averageMinimum_55 : decode cX11_averageMinimum 55 = .ok (.iadd, 1) := by decide +kernel
theorem dX11_averageMinimum_56 : decode cX11_averageMinimum 56 = .ok (.istore_n 2, 1) := by decide +kernel
theorem dX11_averageMinimum_57 : decode cX11_averageMinimum 57 = .ok (.iinc 3 1, 3) := by decide +kernel
theorem dX11_averageMinimum_60 : decode cX11_averageMinimum 60 = .ok (.goto (-45), 3) := by decide +kernel
theorem dX11_averageMinimum_63 : decode cX11_averageMinimum 63 = .ok (.iload_n 1, 1) := by decide +kernel
theorem dX11_averageMinimum_64 : decode cX11_averageMinimum 64 = .ok (.ifCond .ne 12, 3) := by decide +kernel
theorem dX11_averageMinimum_67 : decode cX11_averageMinimum 67 = .ok (.aload_n 0, 1) := by decide +kernel
theorem dX11_averageMinimum_68 : decode cX11_averageMinimum 68 = .ok (.iconst 1, 1) := by decide +kernel
theorem dX11_averageMinimum_69 : decode cX11_averageMinimum 69 = .ok (.invokevirtual 109, 3) := by decide +kernel
theorem dX11_averageMinimum_72 : decode cX11_averageMinimum 72 = .ok (.i2f, 1) := by decide +kernel
theorem dX11_averageMinimum_73 : decode cX11_averageMinimum 73 = .ok (.goto 8, 3) := by decide +kernel
theorem dX11_averageMinimum_76 : decode cX11_averageMinimum 76 = .ok (.iload_n 2, 1) := by decide +kernel
theorem dX11_averageMinimum_77 : decode cX11_averageMinimum 77 = .ok (.i2f, 1) := by decide +kernel
theorem dX11_averageMinimum_78 : decode cX11_averageMinimum 78 = .ok (.iload_n 1, 1) := by decide +kernel
theorem dX11_averageMinimum_79 : decode cX11_averageMinimum 79 = .ok (.i2f, 1) := by decide +kernel
theorem dX11_averageMinimum_80 : decode cX11_averageMinimum 80 = .ok (.fdiv, 1) := by decide +kernel
theorem dX11_averageMinimum_81 : decode cX11_averageMinimum 81 = .ok (.freturn, 1) := by decide +kernel
set_option maxRecDepth 20000 in
theorem ggX11_undo_X11_fails : GoodIn wsX11_undo wsX11_fails := goodIn_r _ [9, 1, 10, 11, 12, 13, 14, 15, 16, 17, 18, 19, 20, 21, 22, 23, 24, 25, 26, 27, 28, 29, 30, 31, 32, 33, 34, 35, 36, 37, 38, 39] (by decide +kernel) (by decide +kernel)
set_option maxRecDepth 20000 in
theorem gX11_undo_X11_fails : GoodIn wsX11_undo (wsV RX11 109 RX11 yX11_fails wsX11_fails) := goodIn_app (goodIn_of _ (by decide +kernel)) ggX11_undo_X11_fails
theorem dX11_undo_0 : decode cX11_undo 0 = .ok (.aload_n 0, 1) := by decide +kernel
theorem dX11_undo_1 : decode cX11_undo 1 = .ok (.iconst 0, 1) := by decide +kernel
theorem dX11_undo_2 : decode cX11_undo 2 = .ok (.putfield 1, 3) := by decide +kernel
theorem dX11_undo_5 : decode cX11_undo 5 = .ok (.aload_n 0, 1) := by decide +kernel
theorem dX11_undo_6 : decode cX11_undo 6 = .ok (.getfield 23, 3) := by decide +kernel
theorem dX11_undo_9 : decode cX11_undo 9 = .ok (.ifCond .ne 9, 3) := by decide +kernel
theorem dX11_undo_12 : decode cX11_undo 12 = .ok (.aload_n 0, 1) := by decide +kernel
theorem dX11_undo_13 : decode cX11_undo 13 = .ok (.iconst 1, 1) := by decide +kernel
theorem dX11_undo_14 : decode cX11_undo 14 = .ok (.invokevirtual 109, 3) := by decide +kernel
theorem dX11_undo_17 : decode cX11_undo 17 = .ok (.ireturn, 1) := by decide +kernel
theorem dX11_undo_18 : decode cX11_undo 18 = .ok (.aload_n 0, 1) := by decide +kernel
theorem dX11_undo_19 : decode cX11_undo 19 = .ok (.dup, 1) := by decide +kernel
theorem dX11_undo_20 : decode cX11_undo 20 = .ok (.getfield 23, 3) := by decide +kernel
theorem dX11_undo_23 : decode cX11_undo 23 = .ok (.iconst 1, 1) := by decide +kernel
theorem dX11_undo_24 : decode cX11_undo 24 = .ok (.isub, 1) := by decide +kernel
theorem dX11_undo_25 : decode cX11_undo 25 = .ok (.putfield 23, 3) := by decide +kernel
theorem dX11_undo_28 : decode cX11_undo 28 = .ok (.iconst 0, 1) := by decide +kernel
theorem dX11_undo_29 : decode cX11_undo 29 = .ok (.istore_n 1, 1) := by decide +kernel
theorem dX11_undo_30 : decode cX11_undo 30 = .ok (.iload_n 1, 1) := by decide +kernel
theorem dX11_undo_31 : decode cX11_undo 31 = .ok (.bipush 122, 2) := by decide +kernel
theorem dX11_undo_33 : decode cX11_undo 33 = .ok (.if_icmp .ge 29, 3) := by decide +kernel
theorem dX11_undo_36 : decode cX11_undo 36 = .ok (.aload_n 0, 1) := by decide +kernel
theorem dX11_undo_37 : decode cX11_undo 37 = .ok (.getfield 13, 3) := by decide +kernel
theorem dX11_undo_40 : decode cX11_undo 40 = .ok (.iload_n 1, 1) := by decide +kernel
theorem dX11_undo_41 : decode cX11_undo 41 = .ok (.aload_n 0, 1) := by decide +kernel
theorem dX11_undo_42 : decode cX11_undo 42 = .ok (.getfield 20, 3) := by decide +kernel
theorem dX11_undo_45 : decode cX11_undo 45 = .ok (.aload_n 0, 1) := by decide +kernel
theorem dX11_undo_46 : decode cX11_undo 46 = .ok (.getfield 23, 3) := by decide +kernel
theorem dX11_undo_49 : decode cX11_undo 49 = .ok (.bipush 122, 2) := by decide +kernel
theorem dX11_undo_51 : decode cX11_undo 51 = .ok (.imul, 1) := by decide +kernel
theorem dX11_undo_52 : decode cX11_undo 52 = .ok (.iload_n 1, 1) := by decide +kernel
theorem dX11_undo_53 : decode cX11_undo 53 = .ok (.iadd, 1) := by decide +kernel
theorem dX11_undo_54 : decode cX11_undo 54 = .ok (.iaload, 1) := by decide +kernel
theorem dX11_undo_55 : decode cX11_undo 55 = .ok (.iastore, 1) := by decide +kernel
theorem dX11_undo_56 : decode cX11_undo 56 = .ok (.iinc 1 1, 3) := by decide +kernel
theorem dX11_undo_59 : decode cX11_undo 59 = .ok (.goto (-29), 3) := by decide +kernel
theorem dX11_undo_62 : decode cX11_undo 62 = .ok (.aload_n 0, 1) := by decide +kernel
theorem dX11_undo_63 : decode cX11_undo 63 = .ok (.getfield 23, 3) := by decide +kernel
theorem dX11_undo_66 : decode cX11_undo 66 = .ok (.ireturn, 1) := by decide +kernel
theorem dX11_save_0 : decode cX11_save 0 = .ok (.aload_n 0, 1) := by decide +kernel
theorem dX11_save_1 : decode cX11_save 1 = .ok (.iconst 1, 1) := by decide +kernel
theorem dX11_save_2 : decode cX11_save 2 = .ok (.putfield 26, 3) := by decide +kernel
theorem dX11_save_5 : decode cX11_save 5 = .ok (.iconst 0, 1) := by decide +kernel
theorem dX11_save_6 : decode cX11_save 6 = .ok (.istore_n 1, 1) := by decide +kernel
theorem dX11_save_7 : decode cX11_save 7 = .ok (.iload_n 1, 1) := by decide +kernel
theorem dX11_save_8 : decode cX11_save 8 = .ok (.bipush 122, 2) := by decide +kernel
theorem dX11_save_10 : decode cX11_save 10 = .ok (.if_icmp .ge 21, 3) := by decide +kernel
theorem dX11_save_13 : decode cX11_save 13 = .ok (.aload_n 0, 1) := by decide +kernel
theorem dX11_save_14 : decode cX11_save 14 = .ok (.getfield 17, 3) := by decide +kernel
theorem dX11_save_17 : decode cX11_save 17 = .ok (.iload_n 1, 1) := by decide +kernel
theorem dX11_save_18 : decode cX11_save 18 = .ok (.aload_n 0, 1) := by decide +kernel
theorem dX11_save_19 : decode cX11_save 19 = .ok (.getfield 13, 3) := by decide +kernel
theorem dX11_save_22 : decode cX11_save 22 = .ok (.iload_n 1, 1) := by decide +kernel
theorem dX11_save_23 : decode cX11_save 23 = .ok (.iaload, 1) := by decide +kernel
theorem dX11_save_24 : decode cX11_save 24 = .ok (.iastore, 1) := by decide +kernel
theorem dX11_save_25 : decode cX11_save 25 = .ok (.iinc 1 1, 3) := by decide +kernel
theorem dX11_save_28 : decode cX11_save 28 = .ok (.goto (-21), 3) := by decide +kernel
theorem dX11_save_31 : decode cX11_save 31 = .ok (.return_, 1) := by decide +kernel
set_option maxRecDepth 20000 in
theorem ggX11_restore_X11_keeps : GoodIn wsX11_restore wsX11_keeps := goodIn_ca (goodIn_r _ [9, 10, 11, 3, 12, 13, 14, 15, 16, 17, 18, 19, 20, 21, 22, 23, 24, 25, 26, 27, 28, 29, 30, 31, 32, 33, 34, 35, 36, 37, 38, 39, 40, 41] (by decide +kernel) (by decide +kernel)) (goodIn_sub (fun _ h => List.mem_cons_of_mem _ (List.mem_append_right _ h)) (gsub_f _))
set_option maxRecDepth 20000 in
theorem gX11_restore_X11_keeps : GoodIn wsX11_restore (wsV RX11 123 RX11 yX11_keeps wsX11_keeps) := goodIn_app (goodIn_of _ (by decide +kernel)) ggX11_restore_X11_keeps
theorem dX11_restore_0 : decode cX11_restore 0 = .ok (.aload_n 0, 1) := by decide +kernel
theorem dX11_restore_1 : decode cX11_restore 1 = .ok (.iconst 0, 1) := by decide +kernel
theorem dX11_restore_2 : decode cX11_restore 2 = .ok (.putfield 1, 3) := by decide +kernel
theorem dX11_restore_5 : decode cX11_restore 5 = .ok (.aload_n 0, 1) := by decide +kernel
theorem dX11_restore_6 : decode cX11_restore 6 = .ok (.getfield 26, 3) := by decide +kernel
theorem dX11_restore_9 : decode cX11_restore 9 = .ok (.ifCond .ne 9, 3) := by decide +kernel
theorem dX11_restore_12 : decode cX11_restore 12 = .ok (.aload_n 0, 1) := by decide +kernel
theorem dX11_restore_13 : decode cX11_restore 13 = .ok (.iconst 1, 1) := by decide +kernel
theorem dX11_restore_14 : decode cX11_restore 14 = .ok (.putfield 1, 3) := by decide +kernel
theorem dX11_restore_17 : decode cX11_restore 17 = .ok (.return_, 1) := by decide +kernel
theorem dX11_restore_18 : decode cX11_restore 18 = .ok (.aload_n 0, 1) := by decide +kernel
theorem dX11_restore_19 : decode cX11_restore 19 = .ok (.invokevirtual 123, 3) := by decide +kernel
theorem dX11_restore_22 : decode cX11_restore 22 = .ok (.iconst 0, 1) := by decide +kernel
theorem dX11_restore_23 : decode cX11_restore 23 = .ok (.istore_n 1, 1) := by decide +kernel
theorem dX11_restore_24 : decode cX11_restore 24 = .ok (.iload_n 1, 1) := by decide +kernel
theorem dX11_restore_25 : decode cX11_restore 25 = .ok (.bipush 122, 2) := by decide +kernel
theorem dX11_restore_27 : decode cX11_restore 27 = .ok (.if_icmp .ge 21, 3) := by decide +kernel
theorem dX11_restore_30 : decode cX11_restore 30 = .ok (.aload_n 0, 1) := by decide +kernel
theorem dX11_restore_31 : decode cX11_restore 31 = .ok (.getfield 13, 3) := by decide +kernel
theorem dX11_restore_34 : decode cX11_restore 34 = .ok (.iload_n 1, 1) := by decide +kernel
theorem dX11_restore_35 : decode cX11_restore 35 = .ok (.aload_n 0, 1) := by decide +kernel
theorem dX11_restore_36 : decode cX11_restore 36 = .ok (.getfield 17, 3) := by decide +kernel
theorem dX11_restore_39 : decode cX11_restore 39 = .ok (.iload_n 1, 1) := by decide +kernel
theorem dX11_restore_40 : decode cX11_restore 40 = .ok (.iaload, 1) := by decide +kernel
theorem dX11_restore_41 : decode cX11_restore 41 = .ok (.iastore, 1) := by decide +kernel
theorem dX11_restore_42 : decode cX11_restore 42 = .ok (.iinc 1 1, 3) := by decide +kernel
theorem dX11_restore_45 : decode cX11_restore 45 = .ok (.goto (-21), 3) := by decide +kernel
theorem dX11_restore_48 : decode cX11_restore 48 = .ok (.return_, 1) := by decide +kernel
