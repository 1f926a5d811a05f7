theorem cf119_0 : zf 119 0 = some (.aload_n 0) ∧ zf 119 1 = some (.invokespecial 1) ∧ zf 119 4 = some (.aload_n 0) ∧ zf 119 5 = some (.bipush 8) ∧ zf 119 7 = some (.newarray .int) ∧ zf 119 9 = some (.putfield 7) ∧ zf 119 12 = some (.aload_n 0) ∧ zf 119 13 = some (.bipush 8) ∧ zf 119 15 = some (.newarray .int) ∧ zf 119 17 = some (.putfield 13) ∧ zf 119 20 = some (.aload_n 0) ∧ zf 119 21 = some (.bipush 8) ∧ zf 119 23 = some (.newarray .int) ∧ zf 119 25 = some (.putfield 16) ∧ zf 119 28 = some (.aload_n 0) ∧ zf 119 29 = some (.bipush 8) := by decide +kernel
theorem f119_0 : zf 119 0 = some (.aload_n 0) := cf119_0.1
theorem f119_1 : zf 119 1 = some (.invokespecial 1) := cf119_0.2.1
theorem f119_4 : zf 119 4 = some (.aload_n 0) := cf119_0.2.2.1
theorem f119_5 : zf 119 5 = some (.bipush 8) := cf119_0.2.2.2.1
theorem f119_7 : zf 119 7 = some (.newarray .int) := cf119_0.2.2.2.2.1
theorem f119_9 : zf 119 9 = some (.putfield 7) := cf119_0.2.2.2.2.2.1
theorem f119_12 : zf 119 12 = some (.aload_n 0) := cf119_0.2.2.2.2.2.2.1
theorem f119_13 : zf 119 13 = some (.bipush 8) := cf119_0.2.2.2.2.2.2.2.1
theorem f119_15 : zf 119 15 = some (.newarray .int) := cf119_0.2.2.2.2.2.2.2.2.1
theorem f119_17 : zf 119 17 = some (.putfield 13) := cf119_0.2.2.2.2.2.2.2.2.2.1
theorem f119_20 : zf 119 20 = some (.aload_n 0) := cf119_0.2.2.2.2.2.2.2.2.2.2.1
theorem f119_21 : zf 119 21 = some (.bipush 8) := cf119_0.2.2.2.2.2.2.2.2.2.2.2.1
theorem f119_23 : zf 119 23 = some (.newarray .int) := cf119_0.2.2.2.2.2.2.2.2.2.2.2.2.1
theorem f119_25 : zf 119 25 = some (.putfield 16) := cf119_0.2.2.2.2.2.2.2.2.2.2.2.2.2.1
theorem f119_28 : zf 119 28 = some (.aload_n 0) := cf119_0.2.2.2.2.2.2.2.2.2.2.2.2.2.2.1
theorem f119_29 : zf 119 29 = some (.bipush 8) := cf119_0.2.2.2.2.2.2.2.2.2.2.2.2.2.2.2
theorem cf119_31 : zf 119 31 = some (.newarray .int) ∧ zf 119 33 = some (.putfield 19) ∧ zf 119 36 = some (.aload_n 0) ∧ zf 119 37 = some (.bipush 8) ∧ zf 119 39 = some (.newarray .int) ∧ zf 119 41 = some (.putfield 22) ∧ zf 119 44 = some (.aload_n 0) ∧ zf 119 45 = some (.bipush 8) ∧ zf 119 47 = some (.newarray .int) ∧ zf 119 49 = some (.putfield 25) ∧ zf 119 52 = some (.aload_n 0) ∧ zf 119 53 = some (.bipush 8) ∧ zf 119 55 = some (.newarray .int) ∧ zf 119 57 = some (.putfield 28) ∧ zf 119 60 = some (.aload_n 0) ∧ zf 119 61 = some (.bipush 14) := by decide +kernel
theorem f119_31 : zf 119 31 = some (.newarray .int) := cf119_31.1
theorem f119_33 : zf 119 33 = some (.putfield 19) := cf119_31.2.1
theorem f119_36 : zf 119 36 = some (.aload_n 0) := cf119_31.2.2.1
theorem f119_37 : zf 119 37 = some (.bipush 8) := cf119_31.2.2.2.1
theorem f119_39 : zf 119 39 = some (.newarray .int) := cf119_31.2.2.2.2.1
theorem f119_41 : zf 119 41 = some (.putfield 22) := cf119_31.2.2.2.2.2.1
theorem f119_44 : zf 119 44 = some (.aload_n 0) := cf119_31.2.2.2.2.2.2.1
theorem f119_45 : zf 119 45 = some (.bipush 8) := cf119_31.2.2.2.2.2.2.2.1
theorem f119_47 : zf 119 47 = some (.newarray .int) := cf119_31.2.2.2.2.2.2.2.2.1
theorem f119_49 : zf 119 49 = some (.putfield 25) := cf119_31.2.2.2.2.2.2.2.2.2.1
theorem f119_52 : zf 119 52 = some (.aload_n 0) := cf119_31.2.2.2.2.2.2.2.2.2.2.1
theorem f119_53 : zf 119 53 = some (.bipush 8) := cf119_31.2.2.2.2.2.2.2.2.2.2.2.1
theorem f119_55 : zf 119 55 = some (.newarray .int) := cf119_31.2.2.2.2.2.2.2.2.2.2.2.2.1
theorem f119_57 : zf 119 57 = some (.putfield 28) := cf119_31.2.2.2.2.2.2.2.2.2.2.2.2.2.1
theorem f119_60 : zf 119 60 = some (.aload_n 0) := cf119_31.2.2.2.2.2.2.2.2.2.2.2.2.2.2.1
theorem f119_61 : zf 119 61 = some (.bipush 14) := cf119_31.2.2.2.2.2.2.2.2.2.2.2.2.2.2.2
theorem cf119_63 : zf 119 63 = some (.newarray .int) ∧ zf 119 65 = some (.putfield 31) ∧ zf 119 68 = some (.aload_n 0) ∧ zf 119 69 = some (.bipush 14) ∧ zf 119 71 = some (.newarray .int) ∧ zf 119 73 = some (.putfield 34) ∧ zf 119 76 = some (.aload_n 0) ∧ zf 119 77 = some (.bipush 14) ∧ zf 119 79 = some (.newarray .int) ∧ zf 119 81 = some (.putfield 37) ∧ zf 119 84 = some (.aload_n 0) ∧ zf 119 85 = some (.lconst 1) ∧ zf 119 86 = some (.putfield 40) ∧ zf 119 89 = some (.aload_n 0) ∧ zf 119 90 = some (.bipush 8) ∧ zf 119 92 = some (.newarray .long) := by decide +kernel
theorem f119_63 : zf 119 63 = some (.newarray .int) := cf119_63.1
theorem f119_65 : zf 119 65 = some (.putfield 31) := cf119_63.2.1
theorem f119_68 : zf 119 68 = some (.aload_n 0) := cf119_63.2.2.1
theorem f119_69 : zf 119 69 = some (.bipush 14) := cf119_63.2.2.2.1
theorem f119_71 : zf 119 71 = some (.newarray .int) := cf119_63.2.2.2.2.1
theorem f119_73 : zf 119 73 = some (.putfield 34) := cf119_63.2.2.2.2.2.1
theorem f119_76 : zf 119 76 = some (.aload_n 0) := cf119_63.2.2.2.2.2.2.1
theorem f119_77 : zf 119 77 = some (.bipush 14) := cf119_63.2.2.2.2.2.2.2.1
theorem f119_79 : zf 119 79 = some (.newarray .int) := cf119_63.2.2.2.2.2.2.2.2.1
theorem f119_81 : zf 119 81 = some (.putfield 37) := cf119_63.2.2.2.2.2.2.2.2.2.1
theorem f119_84 : zf 119 84 = some (.aload_n 0) := cf119_63.2.2.2.2.2.2.2.2.2.2.1
theorem f119_85 : zf 119 85 = some (.lconst 1) := cf119_63.2.2.2.2.2.2.2.2.2.2.2.1
theorem f119_86 : zf 119 86 = some (.putfield 40) := cf119_63.2.2.2.2.2.2.2.2.2.2.2.2.1
theorem f119_89 : zf 119 89 = some (.aload_n 0) := cf119_63.2.2.2.2.2.2.2.2.2.2.2.2.2.1
theorem f119_90 : zf 119 90 = some (.bipush 8) := cf119_63.2.2.2.2.2.2.2.2.2.2.2.2.2.2.1
theorem f119_92 : zf 119 92 = some (.newarray .long) := cf119_63.2.2.2.2.2.2.2.2.2.2.2.2.2.2.2
theorem cf119_94 : zf 119 94 = some (.putfield 44) ∧ zf 119 97 = some (.aload_n 0) ∧ zf 119 98 = some (.bipush 14) ∧ zf 119 100 = some (.newarray .boolean) ∧ zf 119 102 = some (.putfield 48) ∧ zf 119 105 = some (.aload_n 0) ∧ zf 119 106 = some (.bipush 8) ∧ zf 119 108 = some (.newarray .boolean) ∧ zf 119 110 = some (.putfield 52) ∧ zf 119 113 = some (.aload_n 0) ∧ zf 119 114 = some (.bipush 8) ∧ zf 119 116 = some (.newarray .int) ∧ zf 119 118 = some (.putfield 55) ∧ zf 119 121 = some (.aload_n 0) ∧ zf 119 122 = some (.iconst 1) ∧ zf 119 123 = some (.putfield 58) := by decide +kernel
theorem f119_94 : zf 119 94 = some (.putfield 44) := cf119_94.1
theorem f119_97 : zf 119 97 = some (.aload_n 0) := cf119_94.2.1
theorem f119_98 : zf 119 98 = some (.bipush 14) := cf119_94.2.2.1
theorem f119_100 : zf 119 100 = some (.newarray .boolean) := cf119_94.2.2.2.1
theorem f119_102 : zf 119 102 = some (.putfield 48) := cf119_94.2.2.2.2.1
theorem f119_105 : zf 119 105 = some (.aload_n 0) := cf119_94.2.2.2.2.2.1
theorem f119_106 : zf 119 106 = some (.bipush 8) := cf119_94.2.2.2.2.2.2.1
theorem f119_108 : zf 119 108 = some (.newarray .boolean) := cf119_94.2.2.2.2.2.2.2.1
theorem f119_110 : zf 119 110 = some (.putfield 52) := cf119_94.2.2.2.2.2.2.2.2.1
theorem f119_113 : zf 119 113 = some (.aload_n 0) := cf119_94.2.2.2.2.2.2.2.2.2.1
theorem f119_114 : zf 119 114 = some (.bipush 8) := cf119_94.2.2.2.2.2.2.2.2.2.2.1
theorem f119_116 : zf 119 116 = some (.newarray .int) := cf119_94.2.2.2.2.2.2.2.2.2.2.2.1
theorem f119_118 : zf 119 118 = some (.putfield 55) := cf119_94.2.2.2.2.2.2.2.2.2.2.2.2.1
theorem f119_121 : zf 119 121 = some (.aload_n 0) := cf119_94.2.2.2.2.2.2.2.2.2.2.2.2.2.1
theorem f119_122 : zf 119 122 = some (.iconst 1) := cf119_94.2.2.2.2.2.2.2.2.2.2.2.2.2.2.1
theorem f119_123 : zf 119 123 = some (.putfield 58) := cf119_94.2.2.2.2.2.2.2.2.2.2.2.2.2.2.2
theorem cf119_126 : zf 119 126 = some (.aload_n 0) ∧ zf 119 127 = some (.sipush 400) ∧ zf 119 130 = some (.newarray .int) ∧ zf 119 132 = some (.putfield 62) ∧ zf 119 135 = some (.aload_n 0) ∧ zf 119 136 = some (.sipush 400) ∧ zf 119 139 = some (.newarray .int) ∧ zf 119 141 = some (.putfield 65) ∧ zf 119 144 = some (.aload_n 0) ∧ zf 119 145 = some (.sipush 400) ∧ zf 119 148 = some (.newarray .long) ∧ zf 119 150 = some (.putfield 68) ∧ zf 119 153 = some (.aload_n 0) ∧ zf 119 154 = some (.sipush 400) ∧ zf 119 157 = some (.newarray .long) ∧ zf 119 159 = some (.putfield 71) := by decide +kernel
theorem f119_126 : zf 119 126 = some (.aload_n 0) := cf119_126.1
theorem f119_127 : zf 119 127 = some (.sipush 400) := cf119_126.2.1
theorem f119_130 : zf 119 130 = some (.newarray .int) := cf119_126.2.2.1
theorem f119_132 : zf 119 132 = some (.putfield 62) := cf119_126.2.2.2.1
theorem f119_135 : zf 119 135 = some (.aload_n 0) := cf119_126.2.2.2.2.1
theorem f119_136 : zf 119 136 = some (.sipush 400) := cf119_126.2.2.2.2.2.1
theorem f119_139 : zf 119 139 = some (.newarray .int) := cf119_126.2.2.2.2.2.2.1
theorem f119_141 : zf 119 141 = some (.putfield 65) := cf119_126.2.2.2.2.2.2.2.1
theorem f119_144 : zf 119 144 = some (.aload_n 0) := cf119_126.2.2.2.2.2.2.2.2.1
theorem f119_145 : zf 119 145 = some (.sipush 400) := cf119_126.2.2.2.2.2.2.2.2.2.1
theorem f119_148 : zf 119 148 = some (.newarray .long) := cf119_126.2.2.2.2.2.2.2.2.2.2.1
theorem f119_150 : zf 119 150 = some (.putfield 68) := cf119_126.2.2.2.2.2.2.2.2.2.2.2.1
theorem f119_153 : zf 119 153 = some (.aload_n 0) := cf119_126.2.2.2.2.2.2.2.2.2.2.2.2.1
theorem f119_154 : zf 119 154 = some (.sipush 400) := cf119_126.2.2.2.2.2.2.2.2.2.2.2.2.2.1
theorem f119_157 : zf 119 157 = some (.newarray .long) := cf119_126.2.2.2.2.2.2.2.2.2.2.2.2.2.2.1
theorem f119_159 : zf 119 159 = some (.putfield 71) := cf119_126.2.2.2.2.2.2.2.2.2.2.2.2.2.2.2
theorem cf119_162 : zf 119 162 = some (.aload_n 0) ∧ zf 119 163 = some (.bipush 50) ∧ zf 119 165 = some (.newarray .int) ∧ zf 119 167 = some (.putfield 74) ∧ zf 119 170 = some (.aload_n 0) ∧ zf 119 171 = some (.bipush 8) ∧ zf 119 173 = some (.newarray .int) ∧ zf 119 175 = some (.putfield 77) ∧ zf 119 178 = some (.aload_n 0) ∧ zf 119 179 = some (.bipush 8) ∧ zf 119 181 = some (.newarray .int) ∧ zf 119 183 = some (.putfield 80) ∧ zf 119 186 = some (.aload_n 0) ∧ zf 119 187 = some (.bipush 8) ∧ zf 119 189 = some (.newarray .int) ∧ zf 119 191 = some (.putfield 83) := by decide +kernel
theorem f119_162 : zf 119 162 = some (.aload_n 0) := cf119_162.1
theorem f119_163 : zf 119 163 = some (.bipush 50) := cf119_162.2.1
theorem f119_165 : zf 119 165 = some (.newarray .int) := cf119_162.2.2.1
theorem f119_167 : zf 119 167 = some (.putfield 74) := cf119_162.2.2.2.1
theorem f119_170 : zf 119 170 = some (.aload_n 0) := cf119_162.2.2.2.2.1
theorem f119_171 : zf 119 171 = some (.bipush 8) := cf119_162.2.2.2.2.2.1
theorem f119_173 : zf 119 173 = some (.newarray .int) := cf119_162.2.2.2.2.2.2.1
theorem f119_175 : zf 119 175 = some (.putfield 77) := cf119_162.2.2.2.2.2.2.2.1
theorem f119_178 : zf 119 178 = some (.aload_n 0) := cf119_162.2.2.2.2.2.2.2.2.1
theorem f119_179 : zf 119 179 = some (.bipush 8) := cf119_162.2.2.2.2.2.2.2.2.2.1
theorem f119_181 : zf 119 181 = some (.newarray .int) := cf119_162.2.2.2.2.2.2.2.2.2.2.1
theorem f119_183 : zf 119 183 = some (.putfield 80) := cf119_162.2.2.2.2.2.2.2.2.2.2.2.1
theorem f119_186 : zf 119 186 = some (.aload_n 0) := cf119_162.2.2.2.2.2.2.2.2.2.2.2.2.1
theorem f119_187 : zf 119 187 = some (.bipush 8) := cf119_162.2.2.2.2.2.2.2.2.2.2.2.2.2.1
theorem f119_189 : zf 119 189 = some (.newarray .int) := cf119_162.2.2.2.2.2.2.2.2.2.2.2.2.2.2.1
theorem f119_191 : zf 119 191 = some (.putfield 83) := cf119_162.2.2.2.2.2.2.2.2.2.2.2.2.2.2.2
theorem cf119_194 : zf 119 194 = some (.aload_n 0) ∧ zf 119 195 = some (.bipush 14) ∧ zf 119 197 = some (.newarray .int) ∧ zf 119 199 = some (.putfield 86) ∧ zf 119 202 = some (.aload_n 0) ∧ zf 119 203 = some (.bipush 11) ∧ zf 119 205 = some (.newarray .long) ∧ zf 119 207 = some (.putfield 89) ∧ zf 119 210 = some (.aload_n 0) ∧ zf 119 211 = some (.iconst (-1)) ∧ zf 119 212 = some (.putfield 92) ∧ zf 119 215 = some (.aload_n 0) ∧ zf 119 216 = some (.bipush 8) ∧ zf 119 218 = some (.newarray .long) ∧ zf 119 220 = some (.putfield 96) ∧ zf 119 223 = some (.aload_n 0) := by decide +kernel
theorem f119_194 : zf 119 194 = some (.aload_n 0) := cf119_194.1
theorem f119_195 : zf 119 195 = some (.bipush 14) := cf119_194.2.1
theorem f119_197 : zf 119 197 = some (.newarray .int) := cf119_194.2.2.1
theorem f119_199 : zf 119 199 = some (.putfield 86) := cf119_194.2.2.2.1
theorem f119_202 : zf 119 202 = some (.aload_n 0) := cf119_194.2.2.2.2.1
theorem f119_203 : zf 119 203 = some (.bipush 11) := cf119_194.2.2.2.2.2.1
theorem f119_205 : zf 119 205 = some (.newarray .long) := cf119_194.2.2.2.2.2.2.1
theorem f119_207 : zf 119 207 = some (.putfield 89) := cf119_194.2.2.2.2.2.2.2.1
theorem f119_210 : zf 119 210 = some (.aload_n 0) := cf119_194.2.2.2.2.2.2.2.2.1
theorem f119_211 : zf 119 211 = some (.iconst (-1)) := cf119_194.2.2.2.2.2.2.2.2.2.1
theorem f119_212 : zf 119 212 = some (.putfield 92) := cf119_194.2.2.2.2.2.2.2.2.2.2.1
theorem f119_215 : zf 119 215 = some (.aload_n 0) := cf119_194.2.2.2.2.2.2.2.2.2.2.2.1
theorem f119_216 : zf 119 216 = some (.bipush 8) := cf119_194.2.2.2.2.2.2.2.2.2.2.2.2.1
theorem f119_218 : zf 119 218 = some (.newarray .long) := cf119_194.2.2.2.2.2.2.2.2.2.2.2.2.2.1
theorem f119_220 : zf 119 220 = some (.putfield 96) := cf119_194.2.2.2.2.2.2.2.2.2.2.2.2.2.2.1
theorem f119_223 : zf 119 223 = some (.aload_n 0) := cf119_194.2.2.2.2.2.2.2.2.2.2.2.2.2.2.2
theorem cf119_224 : zf 119 224 = some (.bipush 14) ∧ zf 119 226 = some (.newarray .boolean) ∧ zf 119 228 = some (.putfield 99) ∧ zf 119 231 = some (.aload_n 0) ∧ zf 119 232 = some (.bipush 8) ∧ zf 119 234 = some (.newarray .boolean) ∧ zf 119 236 = some (.putfield 102) ∧ zf 119 239 = some (.aload_n 0) ∧ zf 119 240 = some (.bipush 8) ∧ zf 119 242 = some (.newarray .int) ∧ zf 119 244 = some (.putfield 105) ∧ zf 119 247 = some (.aload_n 0) ∧ zf 119 248 = some (.sipush 1661) ∧ zf 119 251 = some (.newarray .long) ∧ zf 119 253 = some (.putfield 108) ∧ zf 119 256 = some (.return_) := by decide +kernel
theorem f119_224 : zf 119 224 = some (.bipush 14) := cf119_224.1
theorem f119_226 : zf 119 226 = some (.newarray .boolean) := cf119_224.2.1
theorem f119_228 : zf 119 228 = some (.putfield 99) := cf119_224.2.2.1
theorem f119_231 : zf 119 231 = some (.aload_n 0) := cf119_224.2.2.2.1
theorem f119_232 : zf 119 232 = some (.bipush 8) := cf119_224.2.2.2.2.1
theorem f119_234 : zf 119 234 = some (.newarray .boolean) := cf119_224.2.2.2.2.2.1
theorem f119_236 : zf 119 236 = some (.putfield 102) := cf119_224.2.2.2.2.2.2.1
theorem f119_239 : zf 119 239 = some (.aload_n 0) := cf119_224.2.2.2.2.2.2.2.1
theorem f119_240 : zf 119 240 = some (.bipush 8) := cf119_224.2.2.2.2.2.2.2.2.1
theorem f119_242 : zf 119 242 = some (.newarray .int) := cf119_224.2.2.2.2.2.2.2.2.2.1
theorem f119_244 : zf 119 244 = some (.putfield 105) := cf119_224.2.2.2.2.2.2.2.2.2.2.1
theorem f119_247 : zf 119 247 = some (.aload_n 0) := cf119_224.2.2.2.2.2.2.2.2.2.2.2.1
theorem f119_248 : zf 119 248 = some (.sipush 1661) := cf119_224.2.2.2.2.2.2.2.2.2.2.2.2.1
theorem f119_251 : zf 119 251 = some (.newarray .long) := cf119_224.2.2.2.2.2.2.2.2.2.2.2.2.2.1
theorem f119_253 : zf 119 253 = some (.putfield 108) := cf119_224.2.2.2.2.2.2.2.2.2.2.2.2.2.2.1
theorem f119_256 : zf 119 256 = some (.return_) := cf119_224.2.2.2.2.2.2.2.2.2.2.2.2.2.2.2
theorem cf120_0 : zf 120 0 = some (.iload_n 0) ∧ zf 120 1 = some (.iload_n 1) ∧ zf 120 2 = some (.if_icmp .lt 12) ∧ zf 120 5 = some (.iload_n 0) ∧ zf 120 6 = some (.iload_n 2) ∧ zf 120 7 = some (.if_icmp .gt 7) ∧ zf 120 10 = some (.iconst 1) ∧ zf 120 11 = some (.goto 4) ∧ zf 120 14 = some (.iconst 0) ∧ zf 120 15 = some (.ireturn) := by decide +kernel
theorem f120_0 : zf 120 0 = some (.iload_n 0) := cf120_0.1
theorem f120_1 : zf 120 1 = some (.iload_n 1) := cf120_0.2.1
theorem f120_2 : zf 120 2 = some (.if_icmp .lt 12) := cf120_0.2.2.1
theorem f120_5 : zf 120 5 = some (.iload_n 0) := cf120_0.2.2.2.1
theorem f120_6 : zf 120 6 = some (.iload_n 2) := cf120_0.2.2.2.2.1
theorem f120_7 : zf 120 7 = some (.if_icmp .gt 7) := cf120_0.2.2.2.2.2.1
theorem f120_10 : zf 120 10 = some (.iconst 1) := cf120_0.2.2.2.2.2.2.1
theorem f120_11 : zf 120 11 = some (.goto 4) := cf120_0.2.2.2.2.2.2.2.1
theorem f120_14 : zf 120 14 = some (.iconst 0) := cf120_0.2.2.2.2.2.2.2.2.1
theorem f120_15 : zf 120 15 = some (.ireturn) := cf120_0.2.2.2.2.2.2.2.2.2
theorem cf121_0 : zf 121 0 = some (.aload_n 0) ∧ zf 121 1 = some (.iload_n 1) ∧ zf 121 2 = some (.putfield 111) ∧ zf 121 5 = some (.iconst (-1)) ∧ zf 121 6 = some (.ireturn) := by decide +kernel
theorem f121_0 : zf 121 0 = some (.aload_n 0) := cf121_0.1
theorem f121_1 : zf 121 1 = some (.iload_n 1) := cf121_0.2.1
theorem f121_2 : zf 121 2 = some (.putfield 111) := cf121_0.2.2.1
theorem f121_5 : zf 121 5 = some (.iconst (-1)) := cf121_0.2.2.2.1
theorem f121_6 : zf 121 6 = some (.ireturn) := cf121_0.2.2.2.2
theorem cf122_0 : zf 122 0 = some (.aload_n 0) ∧ zf 122 1 = some (.iconst 0) ∧ zf 122 2 = some (.putfield 111) ∧ zf 122 5 = some (.iload_n 1) ∧ zf 122 6 = some (.ireturn) := by decide +kernel
theorem f122_0 : zf 122 0 = some (.aload_n 0) := cf122_0.1
theorem f122_1 : zf 122 1 = some (.iconst 0) := cf122_0.2.1
theorem f122_2 : zf 122 2 = some (.putfield 111) := cf122_0.2.2.1
theorem f122_5 : zf 122 5 = some (.iload_n 1) := cf122_0.2.2.2.1
theorem f122_6 : zf 122 6 = some (.ireturn) := cf122_0.2.2.2.2
theorem cf123_0 : zf 123 0 = some (.iload_n 1) ∧ zf 123 1 = some (.iconst 0) ∧ zf 123 2 = some (.aload_n 0) ∧ zf 123 3 = some (.getfield 114) ∧ zf 123 6 = some (.iconst 1) ∧ zf 123 7 = some (.isub) ∧ zf 123 8 = some (.invokestatic 117) ∧ zf 123 11 = some (.ireturn) := by decide +kernel
theorem f123_0 : zf 123 0 = some (.iload_n 1) := cf123_0.1
theorem f123_1 : zf 123 1 = some (.iconst 0) := cf123_0.2.1
theorem f123_2 : zf 123 2 = some (.aload_n 0) := cf123_0.2.2.1
theorem f123_3 : zf 123 3 = some (.getfield 114) := cf123_0.2.2.2.1
theorem f123_6 : zf 123 6 = some (.iconst 1) := cf123_0.2.2.2.2.1
theorem f123_7 : zf 123 7 = some (.isub) := cf123_0.2.2.2.2.2.1
theorem f123_8 : zf 123 8 = some (.invokestatic 117) := cf123_0.2.2.2.2.2.2.1
theorem f123_11 : zf 123 11 = some (.ireturn) := cf123_0.2.2.2.2.2.2.2
theorem cf124_0 : zf 124 0 = some (.iload_n 1) ∧ zf 124 1 = some (.iconst 0) ∧ zf 124 2 = some (.aload_n 0) ∧ zf 124 3 = some (.getfield 121) ∧ zf 124 6 = some (.iconst 1) ∧ zf 124 7 = some (.isub) ∧ zf 124 8 = some (.invokestatic 117) ∧ zf 124 11 = some (.ireturn) := by decide +kernel
theorem f124_0 : zf 124 0 = some (.iload_n 1) := cf124_0.1
theorem f124_1 : zf 124 1 = some (.iconst 0) := cf124_0.2.1
theorem f124_2 : zf 124 2 = some (.aload_n 0) := cf124_0.2.2.1
theorem f124_3 : zf 124 3 = some (.getfield 121) := cf124_0.2.2.2.1
theorem f124_6 : zf 124 6 = some (.iconst 1) := cf124_0.2.2.2.2.1
theorem f124_7 : zf 124 7 = some (.isub) := cf124_0.2.2.2.2.2.1
theorem f124_8 : zf 124 8 = some (.invokestatic 117) := cf124_0.2.2.2.2.2.2.1
theorem f124_11 : zf 124 11 = some (.ireturn) := cf124_0.2.2.2.2.2.2.2
theorem cf125_0 : zf 125 0 = some (.lload_n 0) ∧ zf 125 1 = some (.lconst 0) ∧ zf 125 2 = some (.lcmp) ∧ zf 125 3 = some (.ifCond .ge 8) ∧ zf 125 6 = some (.lload_n 0) ∧ zf 125 7 = some (.lneg) ∧ zf 125 8 = some (.goto 4) ∧ zf 125 11 = some (.lload_n 0) ∧ zf 125 12 = some (.lstore 4) ∧ zf 125 14 = some (.lload_n 2) ∧ zf 125 15 = some (.lstore 6) ∧ zf 125 17 = some (.lload 6) ∧ zf 125 19 = some (.lconst 0) ∧ zf 125 20 = some (.lcmp) ∧ zf 125 21 = some (.ifCond .eq 21) ∧ zf 125 24 = some (.lload 4) := by decide +kernel
theorem f125_0 : zf 125 0 = some (.lload_n 0) := cf125_0.1
theorem f125_1 : zf 125 1 = some (.lconst 0) := cf125_0.2.1
theorem f125_2 : zf 125 2 = some (.lcmp) := cf125_0.2.2.1
theorem f125_3 : zf 125 3 = some (.ifCond .ge 8) := cf125_0.2.2.2.1
theorem f125_6 : zf 125 6 = some (.lload_n 0) := cf125_0.2.2.2.2.1
theorem f125_7 : zf 125 7 = some (.lneg) := cf125_0.2.2.2.2.2.1
theorem f125_8 : zf 125 8 = some (.goto 4) := cf125_0.2.2.2.2.2.2.1
theorem f125_11 : zf 125 11 = some (.lload_n 0) := cf125_0.2.2.2.2.2.2.2.1
theorem f125_12 : zf 125 12 = some (.lstore 4) := cf125_0.2.2.2.2.2.2.2.2.1
theorem f125_14 : zf 125 14 = some (.lload_n 2) := cf125_0.2.2.2.2.2.2.2.2.2.1
theorem f125_15 : zf 125 15 = some (.lstore 6) := cf125_0.2.2.2.2.2.2.2.2.2.2.1
theorem f125_17 : zf 125 17 = some (.lload 6) := cf125_0.2.2.2.2.2.2.2.2.2.2.2.1
theorem f125_19 : zf 125 19 = some (.lconst 0) := cf125_0.2.2.2.2.2.2.2.2.2.2.2.2.1
theorem f125_20 : zf 125 20 = some (.lcmp) := cf125_0.2.2.2.2.2.2.2.2.2.2.2.2.2.1
theorem f125_21 : zf 125 21 = some (.ifCond .eq 21) := cf125_0.2.2.2.2.2.2.2.2.2.2.2.2.2.2.1
theorem f125_24 : zf 125 24 = some (.lload 4) := cf125_0.2.2.2.2.2.2.2.2.2.2.2.2.2.2.2
theorem cf125_26 : zf 125 26 = some (.lload 6) ∧ zf 125 28 = some (.lrem) ∧ zf 125 29 = some (.lstore 8) ∧ zf 125 31 = some (.lload 6) ∧ zf 125 33 = some (.lstore 4) ∧ zf 125 35 = some (.lload 8) ∧ zf 125 37 = some (.lstore 6) ∧ zf 125 39 = some (.goto (-22)) ∧ zf 125 42 = some (.lload 4) ∧ zf 125 44 = some (.lreturn) := by decide +kernel
theorem f125_26 : zf 125 26 = some (.lload 6) := cf125_26.1
theorem f125_28 : zf 125 28 = some (.lrem) := cf125_26.2.1
theorem f125_29 : zf 125 29 = some (.lstore 8) := cf125_26.2.2.1
theorem f125_31 : zf 125 31 = some (.lload 6) := cf125_26.2.2.2.1
theorem f125_33 : zf 125 33 = some (.lstore 4) := cf125_26.2.2.2.2.1
theorem f125_35 : zf 125 35 = some (.lload 8) := cf125_26.2.2.2.2.2.1
theorem f125_37 : zf 125 37 = some (.lstore 6) := cf125_26.2.2.2.2.2.2.1
theorem f125_39 : zf 125 39 = some (.goto (-22)) := cf125_26.2.2.2.2.2.2.2.1
theorem f125_42 : zf 125 42 = some (.lload 4) := cf125_26.2.2.2.2.2.2.2.2.1
theorem f125_44 : zf 125 44 = some (.lreturn) := cf125_26.2.2.2.2.2.2.2.2.2
theorem cf126_0 : zf 126 0 = some (.aload_n 0) ∧ zf 126 1 = some (.getfield 7) ∧ zf 126 4 = some (.iload_n 1) ∧ zf 126 5 = some (.iaload) ∧ zf 126 6 = some (.iconst 3) ∧ zf 126 7 = some (.if_icmp .eq 13) ∧ zf 126 10 = some (.aload_n 0) ∧ zf 126 11 = some (.getfield 7) ∧ zf 126 14 = some (.iload_n 1) ∧ zf 126 15 = some (.iaload) ∧ zf 126 16 = some (.iconst 4) ∧ zf 126 17 = some (.if_icmp .ne 7) ∧ zf 126 20 = some (.iconst 1) ∧ zf 126 21 = some (.goto 4) ∧ zf 126 24 = some (.iconst 0) ∧ zf 126 25 = some (.ireturn) := by decide +kernel
theorem f126_0 : zf 126 0 = some (.aload_n 0) := cf126_0.1
theorem f126_1 : zf 126 1 = some (.getfield 7) := cf126_0.2.1
theorem f126_4 : zf 126 4 = some (.iload_n 1) := cf126_0.2.2.1
theorem f126_5 : zf 126 5 = some (.iaload) := cf126_0.2.2.2.1
theorem f126_6 : zf 126 6 = some (.iconst 3) := cf126_0.2.2.2.2.1
theorem f126_7 : zf 126 7 = some (.if_icmp .eq 13) := cf126_0.2.2.2.2.2.1
theorem f126_10 : zf 126 10 = some (.aload_n 0) := cf126_0.2.2.2.2.2.2.1
theorem f126_11 : zf 126 11 = some (.getfield 7) := cf126_0.2.2.2.2.2.2.2.1
theorem f126_14 : zf 126 14 = some (.iload_n 1) := cf126_0.2.2.2.2.2.2.2.2.1
theorem f126_15 : zf 126 15 = some (.iaload) := cf126_0.2.2.2.2.2.2.2.2.2.1
theorem f126_16 : zf 126 16 = some (.iconst 4) := cf126_0.2.2.2.2.2.2.2.2.2.2.1
theorem f126_17 : zf 126 17 = some (.if_icmp .ne 7) := cf126_0.2.2.2.2.2.2.2.2.2.2.2.1
theorem f126_20 : zf 126 20 = some (.iconst 1) := cf126_0.2.2.2.2.2.2.2.2.2.2.2.2.1
theorem f126_21 : zf 126 21 = some (.goto 4) := cf126_0.2.2.2.2.2.2.2.2.2.2.2.2.2.1
theorem f126_24 : zf 126 24 = some (.iconst 0) := cf126_0.2.2.2.2.2.2.2.2.2.2.2.2.2.2.1
theorem f126_25 : zf 126 25 = some (.ireturn) := cf126_0.2.2.2.2.2.2.2.2.2.2.2.2.2.2.2
theorem cf127_0 : zf 127 0 = some (.aload_n 0) ∧ zf 127 1 = some (.getfield 48) ∧ zf 127 4 = some (.iload_n 1) ∧ zf 127 5 = some (.baload) ∧ zf 127 6 = some (.istore_n 2) ∧ zf 127 7 = some (.iconst 0) ∧ zf 127 8 = some (.istore_n 3) ∧ zf 127 9 = some (.iload_n 3) ∧ zf 127 10 = some (.aload_n 0) ∧ zf 127 11 = some (.getfield 114) ∧ zf 127 14 = some (.if_icmp .ge 48) ∧ zf 127 17 = some (.iload_n 2) ∧ zf 127 18 = some (.ifCond .eq 36) ∧ zf 127 21 = some (.aload_n 0) ∧ zf 127 22 = some (.getfield 7) ∧ zf 127 25 = some (.iload_n 3) := by decide +kernel
theorem f127_0 : zf 127 0 = some (.aload_n 0) := cf127_0.1
theorem f127_1 : zf 127 1 = some (.getfield 48) := cf127_0.2.1
theorem f127_4 : zf 127 4 = some (.iload_n 1) := cf127_0.2.2.1
theorem f127_5 : zf 127 5 = some (.baload) := cf127_0.2.2.2.1
theorem f127_6 : zf 127 6 = some (.istore_n 2) := cf127_0.2.2.2.2.1
theorem f127_7 : zf 127 7 = some (.iconst 0) := cf127_0.2.2.2.2.2.1
theorem f127_8 : zf 127 8 = some (.istore_n 3) := cf127_0.2.2.2.2.2.2.1
theorem f127_9 : zf 127 9 = some (.iload_n 3) := cf127_0.2.2.2.2.2.2.2.1
theorem f127_10 : zf 127 10 = some (.aload_n 0) := cf127_0.2.2.2.2.2.2.2.2.1
theorem f127_11 : zf 127 11 = some (.getfield 114) := cf127_0.2.2.2.2.2.2.2.2.2.1
theorem f127_14 : zf 127 14 = some (.if_icmp .ge 48) := cf127_0.2.2.2.2.2.2.2.2.2.2.1
theorem f127_17 : zf 127 17 = some (.iload_n 2) := cf127_0.2.2.2.2.2.2.2.2.2.2.2.1
theorem f127_18 : zf 127 18 = some (.ifCond .eq 36) := cf127_0.2.2.2.2.2.2.2.2.2.2.2.2.1
theorem f127_21 : zf 127 21 = some (.aload_n 0) := cf127_0.2.2.2.2.2.2.2.2.2.2.2.2.2.1
theorem f127_22 : zf 127 22 = some (.getfield 7) := cf127_0.2.2.2.2.2.2.2.2.2.2.2.2.2.2.1
theorem f127_25 : zf 127 25 = some (.iload_n 3) := cf127_0.2.2.2.2.2.2.2.2.2.2.2.2.2.2.2
theorem cf127_26 : zf 127 26 = some (.iaload) ∧ zf 127 27 = some (.iconst 1) ∧ zf 127 28 = some (.if_icmp .ne 22) ∧ zf 127 31 = some (.aload_n 0) ∧ zf 127 32 = some (.getfield 22) ∧ zf 127 35 = some (.iload_n 3) ∧ zf 127 36 = some (.iaload) ∧ zf 127 37 = some (.iload_n 1) ∧ zf 127 38 = some (.if_icmp .ne 12) ∧ zf 127 41 = some (.aload_n 0) ∧ zf 127 42 = some (.getfield 52) ∧ zf 127 45 = some (.iload_n 3) ∧ zf 127 46 = some (.baload) ∧ zf 127 47 = some (.ifCond .eq 7) ∧ zf 127 50 = some (.iconst 1) ∧ zf 127 51 = some (.goto 4) := by decide +kernel
theorem f127_26 : zf 127 26 = some (.iaload) := cf127_26.1
theorem f127_27 : zf 127 27 = some (.iconst 1) := cf127_26.2.1
theorem f127_28 : zf 127 28 = some (.if_icmp .ne 22) := cf127_26.2.2.1
theorem f127_31 : zf 127 31 = some (.aload_n 0) := cf127_26.2.2.2.1
theorem f127_32 : zf 127 32 = some (.getfield 22) := cf127_26.2.2.2.2.1
theorem f127_35 : zf 127 35 = some (.iload_n 3) := cf127_26.2.2.2.2.2.1
theorem f127_36 : zf 127 36 = some (.iaload) := cf127_26.2.2.2.2.2.2.1
theorem f127_37 : zf 127 37 = some (.iload_n 1) := cf127_26.2.2.2.2.2.2.2.1
theorem f127_38 : zf 127 38 = some (.if_icmp .ne 12) := cf127_26.2.2.2.2.2.2.2.2.1
theorem f127_41 : zf 127 41 = some (.aload_n 0) := cf127_26.2.2.2.2.2.2.2.2.2.1
theorem f127_42 : zf 127 42 = some (.getfield 52) := cf127_26.2.2.2.2.2.2.2.2.2.2.1
theorem f127_45 : zf 127 45 = some (.iload_n 3) := cf127_26.2.2.2.2.2.2.2.2.2.2.2.1
theorem f127_46 : zf 127 46 = some (.baload) := cf127_26.2.2.2.2.2.2.2.2.2.2.2.2.1
theorem f127_47 : zf 127 47 = some (.ifCond .eq 7) := cf127_26.2.2.2.2.2.2.2.2.2.2.2.2.2.1
theorem f127_50 : zf 127 50 = some (.iconst 1) := cf127_26.2.2.2.2.2.2.2.2.2.2.2.2.2.2.1
theorem f127_51 : zf 127 51 = some (.goto 4) := cf127_26.2.2.2.2.2.2.2.2.2.2.2.2.2.2.2
theorem cf127_54 : zf 127 54 = some (.iconst 0) ∧ zf 127 55 = some (.istore_n 2) ∧ zf 127 56 = some (.iinc 3 1) ∧ zf 127 59 = some (.goto (-50)) ∧ zf 127 62 = some (.iload_n 2) ∧ zf 127 63 = some (.ireturn) := by decide +kernel
theorem f127_54 : zf 127 54 = some (.iconst 0) := cf127_54.1
theorem f127_55 : zf 127 55 = some (.istore_n 2) := cf127_54.2.1
theorem f127_56 : zf 127 56 = some (.iinc 3 1) := cf127_54.2.2.1
theorem f127_59 : zf 127 59 = some (.goto (-50)) := cf127_54.2.2.2.1
theorem f127_62 : zf 127 62 = some (.iload_n 2) := cf127_54.2.2.2.2.1
theorem f127_63 : zf 127 63 = some (.ireturn) := cf127_54.2.2.2.2.2
theorem cf128_0 : zf 128 0 = some (.iload_n 1) ∧ zf 128 1 = some (.iconst (-1)) ∧ zf 128 2 = some (.if_icmp .ne 16) ∧ zf 128 5 = some (.aload_n 0) ∧ zf 128 6 = some (.dup) ∧ zf 128 7 = some (.getfield 124) ∧ zf 128 10 = some (.iload_n 2) ∧ zf 128 11 = some (.iadd) ∧ zf 128 12 = some (.putfield 124) ∧ zf 128 15 = some (.goto 13) ∧ zf 128 18 = some (.aload_n 0) ∧ zf 128 19 = some (.getfield 77) ∧ zf 128 22 = some (.iload_n 1) ∧ zf 128 23 = some (.dup2) ∧ zf 128 24 = some (.iaload) ∧ zf 128 25 = some (.iload_n 2) := by decide +kernel
theorem f128_0 : zf 128 0 = some (.iload_n 1) := cf128_0.1
theorem f128_1 : zf 128 1 = some (.iconst (-1)) := cf128_0.2.1
theorem f128_2 : zf 128 2 = some (.if_icmp .ne 16) := cf128_0.2.2.1
theorem f128_5 : zf 128 5 = some (.aload_n 0) := cf128_0.2.2.2.1
theorem f128_6 : zf 128 6 = some (.dup) := cf128_0.2.2.2.2.1
theorem f128_7 : zf 128 7 = some (.getfield 124) := cf128_0.2.2.2.2.2.1
theorem f128_10 : zf 128 10 = some (.iload_n 2) := cf128_0.2.2.2.2.2.2.1
theorem f128_11 : zf 128 11 = some (.iadd) := cf128_0.2.2.2.2.2.2.2.1
theorem f128_12 : zf 128 12 = some (.putfield 124) := cf128_0.2.2.2.2.2.2.2.2.1
theorem f128_15 : zf 128 15 = some (.goto 13) := cf128_0.2.2.2.2.2.2.2.2.2.1
theorem f128_18 : zf 128 18 = some (.aload_n 0) := cf128_0.2.2.2.2.2.2.2.2.2.2.1
theorem f128_19 : zf 128 19 = some (.getfield 77) := cf128_0.2.2.2.2.2.2.2.2.2.2.2.1
theorem f128_22 : zf 128 22 = some (.iload_n 1) := cf128_0.2.2.2.2.2.2.2.2.2.2.2.2.1
theorem f128_23 : zf 128 23 = some (.dup2) := cf128_0.2.2.2.2.2.2.2.2.2.2.2.2.2.1
theorem f128_24 : zf 128 24 = some (.iaload) := cf128_0.2.2.2.2.2.2.2.2.2.2.2.2.2.2.1
theorem f128_25 : zf 128 25 = some (.iload_n 2) := cf128_0.2.2.2.2.2.2.2.2.2.2.2.2.2.2.2
theorem cf128_26 : zf 128 26 = some (.iadd) ∧ zf 128 27 = some (.iastore) ∧ zf 128 28 = some (.return_) := by decide +kernel
theorem f128_26 : zf 128 26 = some (.iadd) := cf128_26.1
theorem f128_27 : zf 128 27 = some (.iastore) := cf128_26.2.1
theorem f128_28 : zf 128 28 = some (.return_) := cf128_26.2.2
theorem cf129_0 : zf 129 0 = some (.aload_n 0) ∧ zf 129 1 = some (.iconst 0) ∧ zf 129 2 = some (.putfield 127) ∧ zf 129 5 = some (.aload_n 0) ∧ zf 129 6 = some (.iconst 0) ∧ zf 129 7 = some (.putfield 124) ∧ zf 129 10 = some (.iconst 0) ∧ zf 129 11 = some (.istore_n 1) ∧ zf 129 12 = some (.iload_n 1) ∧ zf 129 13 = some (.bipush 8) ∧ zf 129 15 = some (.if_icmp .ge 30) ∧ zf 129 18 = some (.aload_n 0) ∧ zf 129 19 = some (.getfield 77) ∧ zf 129 22 = some (.iload_n 1) ∧ zf 129 23 = some (.iconst 0) ∧ zf 129 24 = some (.iastore) := by decide +kernel
theorem f129_0 : zf 129 0 = some (.aload_n 0) := cf129_0.1
theorem f129_1 : zf 129 1 = some (.iconst 0) := cf129_0.2.1
theorem f129_2 : zf 129 2 = some (.putfield 127) := cf129_0.2.2.1
theorem f129_5 : zf 129 5 = some (.aload_n 0) := cf129_0.2.2.2.1
theorem f129_6 : zf 129 6 = some (.iconst 0) := cf129_0.2.2.2.2.1
theorem f129_7 : zf 129 7 = some (.putfield 124) := cf129_0.2.2.2.2.2.1
theorem f129_10 : zf 129 10 = some (.iconst 0) := cf129_0.2.2.2.2.2.2.1
theorem f129_11 : zf 129 11 = some (.istore_n 1) := cf129_0.2.2.2.2.2.2.2.1
theorem f129_12 : zf 129 12 = some (.iload_n 1) := cf129_0.2.2.2.2.2.2.2.2.1
theorem f129_13 : zf 129 13 = some (.bipush 8) := cf129_0.2.2.2.2.2.2.2.2.2.1
theorem f129_15 : zf 129 15 = some (.if_icmp .ge 30) := cf129_0.2.2.2.2.2.2.2.2.2.2.1
theorem f129_18 : zf 129 18 = some (.aload_n 0) := cf129_0.2.2.2.2.2.2.2.2.2.2.2.1
theorem f129_19 : zf 129 19 = some (.getfield 77) := cf129_0.2.2.2.2.2.2.2.2.2.2.2.2.1
theorem f129_22 : zf 129 22 = some (.iload_n 1) := cf129_0.2.2.2.2.2.2.2.2.2.2.2.2.2.1
theorem f129_23 : zf 129 23 = some (.iconst 0) := cf129_0.2.2.2.2.2.2.2.2.2.2.2.2.2.2.1
theorem f129_24 : zf 129 24 = some (.iastore) := cf129_0.2.2.2.2.2.2.2.2.2.2.2.2.2.2.2
theorem cf129_25 : zf 129 25 = some (.aload_n 0) ∧ zf 129 26 = some (.getfield 80) ∧ zf 129 29 = some (.iload_n 1) ∧ zf 129 30 = some (.iconst 0) ∧ zf 129 31 = some (.iastore) ∧ zf 129 32 = some (.aload_n 0) ∧ zf 129 33 = some (.getfield 83) ∧ zf 129 36 = some (.iload_n 1) ∧ zf 129 37 = some (.iconst 0) ∧ zf 129 38 = some (.iastore) ∧ zf 129 39 = some (.iinc 1 1) ∧ zf 129 42 = some (.goto (-30)) ∧ zf 129 45 = some (.iconst 0) ∧ zf 129 46 = some (.istore_n 1) ∧ zf 129 47 = some (.iload_n 1) ∧ zf 129 48 = some (.aload_n 0) := by decide +kernel
theorem f129_25 : zf 129 25 = some (.aload_n 0) := cf129_25.1
theorem f129_26 : zf 129 26 = some (.getfield 80) := cf129_25.2.1
theorem f129_29 : zf 129 29 = some (.iload_n 1) := cf129_25.2.2.1
theorem f129_30 : zf 129 30 = some (.iconst 0) := cf129_25.2.2.2.1
theorem f129_31 : zf 129 31 = some (.iastore) := cf129_25.2.2.2.2.1
theorem f129_32 : zf 129 32 = some (.aload_n 0) := cf129_25.2.2.2.2.2.1
theorem f129_33 : zf 129 33 = some (.getfield 83) := cf129_25.2.2.2.2.2.2.1
theorem f129_36 : zf 129 36 = some (.iload_n 1) := cf129_25.2.2.2.2.2.2.2.1
theorem f129_37 : zf 129 37 = some (.iconst 0) := cf129_25.2.2.2.2.2.2.2.2.1
theorem f129_38 : zf 129 38 = some (.iastore) := cf129_25.2.2.2.2.2.2.2.2.2.1
theorem f129_39 : zf 129 39 = some (.iinc 1 1) := cf129_25.2.2.2.2.2.2.2.2.2.2.1
theorem f129_42 : zf 129 42 = some (.goto (-30)) := cf129_25.2.2.2.2.2.2.2.2.2.2.2.1
theorem f129_45 : zf 129 45 = some (.iconst 0) := cf129_25.2.2.2.2.2.2.2.2.2.2.2.2.1
theorem f129_46 : zf 129 46 = some (.istore_n 1) := cf129_25.2.2.2.2.2.2.2.2.2.2.2.2.2.1
theorem f129_47 : zf 129 47 = some (.iload_n 1) := cf129_25.2.2.2.2.2.2.2.2.2.2.2.2.2.2.1
theorem f129_48 : zf 129 48 = some (.aload_n 0) := cf129_25.2.2.2.2.2.2.2.2.2.2.2.2.2.2.2
theorem cf129_49 : zf 129 49 = some (.getfield 121) ∧ zf 129 52 = some (.if_icmp .ge 83) ∧ zf 129 55 = some (.aload_n 0) ∧ zf 129 56 = some (.getfield 86) ∧ zf 129 59 = some (.iload_n 1) ∧ zf 129 60 = some (.aload_n 0) ∧ zf 129 61 = some (.getfield 31) ∧ zf 129 64 = some (.iload_n 1) ∧ zf 129 65 = some (.iaload) ∧ zf 129 66 = some (.iconst (-1)) ∧ zf 129 67 = some (.if_icmp .ne 20) ∧ zf 129 70 = some (.aload_n 0) ∧ zf 129 71 = some (.iload_n 1) ∧ zf 129 72 = some (.invokevirtual 130) ∧ zf 129 75 = some (.ifCond .eq 12) ∧ zf 129 78 = some (.aload_n 0) := by decide +kernel
theorem f129_49 : zf 129 49 = some (.getfield 121) := cf129_49.1
theorem f129_52 : zf 129 52 = some (.if_icmp .ge 83) := cf129_49.2.1
theorem f129_55 : zf 129 55 = some (.aload_n 0) := cf129_49.2.2.1
theorem f129_56 : zf 129 56 = some (.getfield 86) := cf129_49.2.2.2.1
theorem f129_59 : zf 129 59 = some (.iload_n 1) := cf129_49.2.2.2.2.1
theorem f129_60 : zf 129 60 = some (.aload_n 0) := cf129_49.2.2.2.2.2.1
theorem f129_61 : zf 129 61 = some (.getfield 31) := cf129_49.2.2.2.2.2.2.1
theorem f129_64 : zf 129 64 = some (.iload_n 1) := cf129_49.2.2.2.2.2.2.2.1
theorem f129_65 : zf 129 65 = some (.iaload) := cf129_49.2.2.2.2.2.2.2.2.1
theorem f129_66 : zf 129 66 = some (.iconst (-1)) := cf129_49.2.2.2.2.2.2.2.2.2.1
theorem f129_67 : zf 129 67 = some (.if_icmp .ne 20) := cf129_49.2.2.2.2.2.2.2.2.2.2.1
theorem f129_70 : zf 129 70 = some (.aload_n 0) := cf129_49.2.2.2.2.2.2.2.2.2.2.2.1
theorem f129_71 : zf 129 71 = some (.iload_n 1) := cf129_49.2.2.2.2.2.2.2.2.2.2.2.2.1
theorem f129_72 : zf 129 72 = some (.invokevirtual 130) := cf129_49.2.2.2.2.2.2.2.2.2.2.2.2.2.1
theorem f129_75 : zf 129 75 = some (.ifCond .eq 12) := cf129_49.2.2.2.2.2.2.2.2.2.2.2.2.2.2.1
theorem f129_78 : zf 129 78 = some (.aload_n 0) := cf129_49.2.2.2.2.2.2.2.2.2.2.2.2.2.2.2
theorem cf129_79 : zf 129 79 = some (.getfield 37) ∧ zf 129 82 = some (.iload_n 1) ∧ zf 129 83 = some (.iaload) ∧ zf 129 84 = some (.goto 4) ∧ zf 129 87 = some (.iconst 0) ∧ zf 129 88 = some (.iastore) ∧ zf 129 89 = some (.aload_n 0) ∧ zf 129 90 = some (.dup) ∧ zf 129 91 = some (.getfield 127) ∧ zf 129 94 = some (.aload_n 0) ∧ zf 129 95 = some (.getfield 86) ∧ zf 129 98 = some (.iload_n 1) ∧ zf 129 99 = some (.iaload) ∧ zf 129 100 = some (.iadd) ∧ zf 129 101 = some (.putfield 127) ∧ zf 129 104 = some (.aload_n 0) := by decide +kernel
theorem f129_79 : zf 129 79 = some (.getfield 37) := cf129_79.1
theorem f129_82 : zf 129 82 = some (.iload_n 1) := cf129_79.2.1
theorem f129_83 : zf 129 83 = some (.iaload) := cf129_79.2.2.1
theorem f129_84 : zf 129 84 = some (.goto 4) := cf129_79.2.2.2.1
theorem f129_87 : zf 129 87 = some (.iconst 0) := cf129_79.2.2.2.2.1
theorem f129_88 : zf 129 88 = some (.iastore) := cf129_79.2.2.2.2.2.1
theorem f129_89 : zf 129 89 = some (.aload_n 0) := cf129_79.2.2.2.2.2.2.1
theorem f129_90 : zf 129 90 = some (.dup) := cf129_79.2.2.2.2.2.2.2.1
theorem f129_91 : zf 129 91 = some (.getfield 127) := cf129_79.2.2.2.2.2.2.2.2.1
theorem f129_94 : zf 129 94 = some (.aload_n 0) := cf129_79.2.2.2.2.2.2.2.2.2.1
theorem f129_95 : zf 129 95 = some (.getfield 86) := cf129_79.2.2.2.2.2.2.2.2.2.2.1
theorem f129_98 : zf 129 98 = some (.iload_n 1) := cf129_79.2.2.2.2.2.2.2.2.2.2.2.1
theorem f129_99 : zf 129 99 = some (.iaload) := cf129_79.2.2.2.2.2.2.2.2.2.2.2.2.1
theorem f129_100 : zf 129 100 = some (.iadd) := cf129_79.2.2.2.2.2.2.2.2.2.2.2.2.2.1
theorem f129_101 : zf 129 101 = some (.putfield 127) := cf129_79.2.2.2.2.2.2.2.2.2.2.2.2.2.2.1
theorem f129_104 : zf 129 104 = some (.aload_n 0) := cf129_79.2.2.2.2.2.2.2.2.2.2.2.2.2.2.2
theorem cf129_105 : zf 129 105 = some (.getfield 86) ∧ zf 129 108 = some (.iload_n 1) ∧ zf 129 109 = some (.iaload) ∧ zf 129 110 = some (.ifCond .le 19) ∧ zf 129 113 = some (.aload_n 0) ∧ zf 129 114 = some (.aload_n 0) ∧ zf 129 115 = some (.getfield 34) ∧ zf 129 118 = some (.iload_n 1) ∧ zf 129 119 = some (.iaload) ∧ zf 129 120 = some (.aload_n 0) ∧ zf 129 121 = some (.getfield 86) ∧ zf 129 124 = some (.iload_n 1) ∧ zf 129 125 = some (.iaload) ∧ zf 129 126 = some (.invokevirtual 134) ∧ zf 129 129 = some (.iinc 1 1) ∧ zf 129 132 = some (.goto (-85)) := by decide +kernel
theorem f129_105 : zf 129 105 = some (.getfield 86) := cf129_105.1
theorem f129_108 : zf 129 108 = some (.iload_n 1) := cf129_105.2.1
theorem f129_109 : zf 129 109 = some (.iaload) := cf129_105.2.2.1
theorem f129_110 : zf 129 110 = some (.ifCond .le 19) := cf129_105.2.2.2.1
theorem f129_113 : zf 129 113 = some (.aload_n 0) := cf129_105.2.2.2.2.1
theorem f129_114 : zf 129 114 = some (.aload_n 0) := cf129_105.2.2.2.2.2.1
theorem f129_115 : zf 129 115 = some (.getfield 34) := cf129_105.2.2.2.2.2.2.1
theorem f129_118 : zf 129 118 = some (.iload_n 1) := cf129_105.2.2.2.2.2.2.2.1
theorem f129_119 : zf 129 119 = some (.iaload) := cf129_105.2.2.2.2.2.2.2.2.1
theorem f129_120 : zf 129 120 = some (.aload_n 0) := cf129_105.2.2.2.2.2.2.2.2.2.1
theorem f129_121 : zf 129 121 = some (.getfield 86) := cf129_105.2.2.2.2.2.2.2.2.2.2.1
theorem f129_124 : zf 129 124 = some (.iload_n 1) := cf129_105.2.2.2.2.2.2.2.2.2.2.2.1
theorem f129_125 : zf 129 125 = some (.iaload) := cf129_105.2.2.2.2.2.2.2.2.2.2.2.2.1
theorem f129_126 : zf 129 126 = some (.invokevirtual 134) := cf129_105.2.2.2.2.2.2.2.2.2.2.2.2.2.1
theorem f129_129 : zf 129 129 = some (.iinc 1 1) := cf129_105.2.2.2.2.2.2.2.2.2.2.2.2.2.2.1
theorem f129_132 : zf 129 132 = some (.goto (-85)) := cf129_105.2.2.2.2.2.2.2.2.2.2.2.2.2.2.2
theorem cf129_135 : zf 129 135 = some (.iconst 0) ∧ zf 129 136 = some (.istore_n 1) ∧ zf 129 137 = some (.iload_n 1) ∧ zf 129 138 = some (.aload_n 0) ∧ zf 129 139 = some (.getfield 114) ∧ zf 129 142 = some (.if_icmp .ge 14) ∧ zf 129 145 = some (.aload_n 0) ∧ zf 129 146 = some (.iload_n 1) ∧ zf 129 147 = some (.invokevirtual 138) ∧ zf 129 150 = some (.iinc 1 1) ∧ zf 129 153 = some (.goto (-16)) ∧ zf 129 156 = some (.return_) := by decide +kernel
theorem f129_135 : zf 129 135 = some (.iconst 0) := cf129_135.1
theorem f129_136 : zf 129 136 = some (.istore_n 1) := cf129_135.2.1
theorem f129_137 : zf 129 137 = some (.iload_n 1) := cf129_135.2.2.1
theorem f129_138 : zf 129 138 = some (.aload_n 0) := cf129_135.2.2.2.1
theorem f129_139 : zf 129 139 = some (.getfield 114) := cf129_135.2.2.2.2.1
theorem f129_142 : zf 129 142 = some (.if_icmp .ge 14) := cf129_135.2.2.2.2.2.1
theorem f129_145 : zf 129 145 = some (.aload_n 0) := cf129_135.2.2.2.2.2.2.1
theorem f129_146 : zf 129 146 = some (.iload_n 1) := cf129_135.2.2.2.2.2.2.2.1
theorem f129_147 : zf 129 147 = some (.invokevirtual 138) := cf129_135.2.2.2.2.2.2.2.2.1
theorem f129_150 : zf 129 150 = some (.iinc 1 1) := cf129_135.2.2.2.2.2.2.2.2.2.1
theorem f129_153 : zf 129 153 = some (.goto (-16)) := cf129_135.2.2.2.2.2.2.2.2.2.2.1
theorem f129_156 : zf 129 156 = some (.return_) := cf129_135.2.2.2.2.2.2.2.2.2.2.2
theorem cf130_0 : zf 130 0 = some (.aload_n 0) ∧ zf 130 1 = some (.getfield 77) ∧ zf 130 4 = some (.iload_n 1) ∧ zf 130 5 = some (.iaload) ∧ zf 130 6 = some (.istore_n 2) ∧ zf 130 7 = some (.iconst 0) ∧ zf 130 8 = some (.istore_n 3) ∧ zf 130 9 = some (.iconst 0) ∧ zf 130 10 = some (.istore 4) ∧ zf 130 12 = some (.iload 4) ∧ zf 130 14 = some (.aload_n 0) ∧ zf 130 15 = some (.getfield 121) ∧ zf 130 18 = some (.if_icmp .ge 107) ∧ zf 130 21 = some (.aload_n 0) ∧ zf 130 22 = some (.getfield 31) ∧ zf 130 25 = some (.iload 4) := by decide +kernel
theorem f130_0 : zf 130 0 = some (.aload_n 0) := cf130_0.1
theorem f130_1 : zf 130 1 = some (.getfield 77) := cf130_0.2.1
theorem f130_4 : zf 130 4 = some (.iload_n 1) := cf130_0.2.2.1
theorem f130_5 : zf 130 5 = some (.iaload) := cf130_0.2.2.2.1
theorem f130_6 : zf 130 6 = some (.istore_n 2) := cf130_0.2.2.2.2.1
theorem f130_7 : zf 130 7 = some (.iconst 0) := cf130_0.2.2.2.2.2.1
theorem f130_8 : zf 130 8 = some (.istore_n 3) := cf130_0.2.2.2.2.2.2.1
theorem f130_9 : zf 130 9 = some (.iconst 0) := cf130_0.2.2.2.2.2.2.2.1
theorem f130_10 : zf 130 10 = some (.istore 4) := cf130_0.2.2.2.2.2.2.2.2.1
theorem f130_12 : zf 130 12 = some (.iload 4) := cf130_0.2.2.2.2.2.2.2.2.2.1
theorem f130_14 : zf 130 14 = some (.aload_n 0) := cf130_0.2.2.2.2.2.2.2.2.2.2.1
theorem f130_15 : zf 130 15 = some (.getfield 121) := cf130_0.2.2.2.2.2.2.2.2.2.2.2.1
theorem f130_18 : zf 130 18 = some (.if_icmp .ge 107) := cf130_0.2.2.2.2.2.2.2.2.2.2.2.2.1
theorem f130_21 : zf 130 21 = some (.aload_n 0) := cf130_0.2.2.2.2.2.2.2.2.2.2.2.2.2.1
theorem f130_22 : zf 130 22 = some (.getfield 31) := cf130_0.2.2.2.2.2.2.2.2.2.2.2.2.2.2.1
theorem f130_25 : zf 130 25 = some (.iload 4) := cf130_0.2.2.2.2.2.2.2.2.2.2.2.2.2.2.2
theorem cf130_27 : zf 130 27 = some (.iaload) ∧ zf 130 28 = some (.iload_n 1) ∧ zf 130 29 = some (.if_icmp .ne 90) ∧ zf 130 32 = some (.aload_n 0) ∧ zf 130 33 = some (.iload 4) ∧ zf 130 35 = some (.invokevirtual 130) ∧ zf 130 38 = some (.ifCond .eq 81) ∧ zf 130 41 = some (.aload_n 0) ∧ zf 130 42 = some (.getfield 86) ∧ zf 130 45 = some (.iload 4) ∧ zf 130 47 = some (.aload_n 0) ∧ zf 130 48 = some (.getfield 44) ∧ zf 130 51 = some (.iload_n 1) ∧ zf 130 52 = some (.laload) ∧ zf 130 53 = some (.lconst 0) ∧ zf 130 54 = some (.lcmp) := by decide +kernel
theorem f130_27 : zf 130 27 = some (.iaload) := cf130_27.1
theorem f130_28 : zf 130 28 = some (.iload_n 1) := cf130_27.2.1
theorem f130_29 : zf 130 29 = some (.if_icmp .ne 90) := cf130_27.2.2.1
theorem f130_32 : zf 130 32 = some (.aload_n 0) := cf130_27.2.2.2.1
theorem f130_33 : zf 130 33 = some (.iload 4) := cf130_27.2.2.2.2.1
theorem f130_35 : zf 130 35 = some (.invokevirtual 130) := cf130_27.2.2.2.2.2.1
theorem f130_38 : zf 130 38 = some (.ifCond .eq 81) := cf130_27.2.2.2.2.2.2.1
theorem f130_41 : zf 130 41 = some (.aload_n 0) := cf130_27.2.2.2.2.2.2.2.1
theorem f130_42 : zf 130 42 = some (.getfield 86) := cf130_27.2.2.2.2.2.2.2.2.1
theorem f130_45 : zf 130 45 = some (.iload 4) := cf130_27.2.2.2.2.2.2.2.2.2.1
theorem f130_47 : zf 130 47 = some (.aload_n 0) := cf130_27.2.2.2.2.2.2.2.2.2.2.1
theorem f130_48 : zf 130 48 = some (.getfield 44) := cf130_27.2.2.2.2.2.2.2.2.2.2.2.1
theorem f130_51 : zf 130 51 = some (.iload_n 1) := cf130_27.2.2.2.2.2.2.2.2.2.2.2.2.1
theorem f130_52 : zf 130 52 = some (.laload) := cf130_27.2.2.2.2.2.2.2.2.2.2.2.2.2.1
theorem f130_53 : zf 130 53 = some (.lconst 0) := cf130_27.2.2.2.2.2.2.2.2.2.2.2.2.2.2.1
theorem f130_54 : zf 130 54 = some (.lcmp) := cf130_27.2.2.2.2.2.2.2.2.2.2.2.2.2.2.2
theorem cf130_55 : zf 130 55 = some (.ifCond .gt 14) ∧ zf 130 58 = some (.aload_n 0) ∧ zf 130 59 = some (.getfield 37) ∧ zf 130 62 = some (.iload 4) ∧ zf 130 64 = some (.iaload) ∧ zf 130 65 = some (.iload_n 2) ∧ zf 130 66 = some (.if_icmp .ge 13) ∧ zf 130 69 = some (.aload_n 0) ∧ zf 130 70 = some (.getfield 37) ∧ zf 130 73 = some (.iload 4) ∧ zf 130 75 = some (.iaload) ∧ zf 130 76 = some (.goto 4) ∧ zf 130 79 = some (.iload_n 2) ∧ zf 130 80 = some (.iastore) ∧ zf 130 81 = some (.iload_n 2) ∧ zf 130 82 = some (.aload_n 0) := by decide +kernel
theorem f130_55 : zf 130 55 = some (.ifCond .gt 14) := cf130_55.1
theorem f130_58 : zf 130 58 = some (.aload_n 0) := cf130_55.2.1
theorem f130_59 : zf 130 59 = some (.getfield 37) := cf130_55.2.2.1
theorem f130_62 : zf 130 62 = some (.iload 4) := cf130_55.2.2.2.1
theorem f130_64 : zf 130 64 = some (.iaload) := cf130_55.2.2.2.2.1
theorem f130_65 : zf 130 65 = some (.iload_n 2) := cf130_55.2.2.2.2.2.1
theorem f130_66 : zf 130 66 = some (.if_icmp .ge 13) := cf130_55.2.2.2.2.2.2.1
theorem f130_69 : zf 130 69 = some (.aload_n 0) := cf130_55.2.2.2.2.2.2.2.1
theorem f130_70 : zf 130 70 = some (.getfield 37) := cf130_55.2.2.2.2.2.2.2.2.1
theorem f130_73 : zf 130 73 = some (.iload 4) := cf130_55.2.2.2.2.2.2.2.2.2.1
theorem f130_75 : zf 130 75 = some (.iaload) := cf130_55.2.2.2.2.2.2.2.2.2.2.1
theorem f130_76 : zf 130 76 = some (.goto 4) := cf130_55.2.2.2.2.2.2.2.2.2.2.2.1
theorem f130_79 : zf 130 79 = some (.iload_n 2) := cf130_55.2.2.2.2.2.2.2.2.2.2.2.2.1
theorem f130_80 : zf 130 80 = some (.iastore) := cf130_55.2.2.2.2.2.2.2.2.2.2.2.2.2.1
theorem f130_81 : zf 130 81 = some (.iload_n 2) := cf130_55.2.2.2.2.2.2.2.2.2.2.2.2.2.2.1
theorem f130_82 : zf 130 82 = some (.aload_n 0) := cf130_55.2.2.2.2.2.2.2.2.2.2.2.2.2.2.2
theorem cf130_83 : zf 130 83 = some (.getfield 86) ∧ zf 130 86 = some (.iload 4) ∧ zf 130 88 = some (.iaload) ∧ zf 130 89 = some (.isub) ∧ zf 130 90 = some (.istore_n 2) ∧ zf 130 91 = some (.iload_n 3) ∧ zf 130 92 = some (.aload_n 0) ∧ zf 130 93 = some (.getfield 86) ∧ zf 130 96 = some (.iload 4) ∧ zf 130 98 = some (.iaload) ∧ zf 130 99 = some (.iadd) ∧ zf 130 100 = some (.istore_n 3) ∧ zf 130 101 = some (.aload_n 0) ∧ zf 130 102 = some (.aload_n 0) ∧ zf 130 103 = some (.getfield 34) ∧ zf 130 106 = some (.iload 4) := by decide +kernel
theorem f130_83 : zf 130 83 = some (.getfield 86) := cf130_83.1
theorem f130_86 : zf 130 86 = some (.iload 4) := cf130_83.2.1
theorem f130_88 : zf 130 88 = some (.iaload) := cf130_83.2.2.1
theorem f130_89 : zf 130 89 = some (.isub) := cf130_83.2.2.2.1
theorem f130_90 : zf 130 90 = some (.istore_n 2) := cf130_83.2.2.2.2.1
theorem f130_91 : zf 130 91 = some (.iload_n 3) := cf130_83.2.2.2.2.2.1
theorem f130_92 : zf 130 92 = some (.aload_n 0) := cf130_83.2.2.2.2.2.2.1
theorem f130_93 : zf 130 93 = some (.getfield 86) := cf130_83.2.2.2.2.2.2.2.1
theorem f130_96 : zf 130 96 = some (.iload 4) := cf130_83.2.2.2.2.2.2.2.2.1
theorem f130_98 : zf 130 98 = some (.iaload) := cf130_83.2.2.2.2.2.2.2.2.2.1
theorem f130_99 : zf 130 99 = some (.iadd) := cf130_83.2.2.2.2.2.2.2.2.2.2.1
theorem f130_100 : zf 130 100 = some (.istore_n 3) := cf130_83.2.2.2.2.2.2.2.2.2.2.2.1
theorem f130_101 : zf 130 101 = some (.aload_n 0) := cf130_83.2.2.2.2.2.2.2.2.2.2.2.2.1
theorem f130_102 : zf 130 102 = some (.aload_n 0) := cf130_83.2.2.2.2.2.2.2.2.2.2.2.2.2.1
theorem f130_103 : zf 130 103 = some (.getfield 34) := cf130_83.2.2.2.2.2.2.2.2.2.2.2.2.2.2.1
theorem f130_106 : zf 130 106 = some (.iload 4) := cf130_83.2.2.2.2.2.2.2.2.2.2.2.2.2.2.2
theorem cf130_108 : zf 130 108 = some (.iaload) ∧ zf 130 109 = some (.aload_n 0) ∧ zf 130 110 = some (.getfield 86) ∧ zf 130 113 = some (.iload 4) ∧ zf 130 115 = some (.iaload) ∧ zf 130 116 = some (.invokevirtual 134) ∧ zf 130 119 = some (.iinc 4 1) ∧ zf 130 122 = some (.goto (-110)) ∧ zf 130 125 = some (.aload_n 0) ∧ zf 130 126 = some (.getfield 80) ∧ zf 130 129 = some (.iload_n 1) ∧ zf 130 130 = some (.aload_n 0) ∧ zf 130 131 = some (.getfield 77) ∧ zf 130 134 = some (.iload_n 1) ∧ zf 130 135 = some (.iaload) ∧ zf 130 136 = some (.iload_n 3) := by decide +kernel
theorem f130_108 : zf 130 108 = some (.iaload) := cf130_108.1
theorem f130_109 : zf 130 109 = some (.aload_n 0) := cf130_108.2.1
theorem f130_110 : zf 130 110 = some (.getfield 86) := cf130_108.2.2.1
theorem f130_113 : zf 130 113 = some (.iload 4) := cf130_108.2.2.2.1
theorem f130_115 : zf 130 115 = some (.iaload) := cf130_108.2.2.2.2.1
theorem f130_116 : zf 130 116 = some (.invokevirtual 134) := cf130_108.2.2.2.2.2.1
theorem f130_119 : zf 130 119 = some (.iinc 4 1) := cf130_108.2.2.2.2.2.2.1
theorem f130_122 : zf 130 122 = some (.goto (-110)) := cf130_108.2.2.2.2.2.2.2.1
theorem f130_125 : zf 130 125 = some (.aload_n 0) := cf130_108.2.2.2.2.2.2.2.2.1
theorem f130_126 : zf 130 126 = some (.getfield 80) := cf130_108.2.2.2.2.2.2.2.2.2.1
theorem f130_129 : zf 130 129 = some (.iload_n 1) := cf130_108.2.2.2.2.2.2.2.2.2.2.1
theorem f130_130 : zf 130 130 = some (.aload_n 0) := cf130_108.2.2.2.2.2.2.2.2.2.2.2.1
theorem f130_131 : zf 130 131 = some (.getfield 77) := cf130_108.2.2.2.2.2.2.2.2.2.2.2.2.1
theorem f130_134 : zf 130 134 = some (.iload_n 1) := cf130_108.2.2.2.2.2.2.2.2.2.2.2.2.2.1
theorem f130_135 : zf 130 135 = some (.iaload) := cf130_108.2.2.2.2.2.2.2.2.2.2.2.2.2.2.1
theorem f130_136 : zf 130 136 = some (.iload_n 3) := cf130_108.2.2.2.2.2.2.2.2.2.2.2.2.2.2.2
theorem cf130_137 : zf 130 137 = some (.isub) ∧ zf 130 138 = some (.iastore) ∧ zf 130 139 = some (.aload_n 0) ∧ zf 130 140 = some (.getfield 80) ∧ zf 130 143 = some (.iload_n 1) ∧ zf 130 144 = some (.iaload) ∧ zf 130 145 = some (.ifCond .le 60) ∧ zf 130 148 = some (.aload_n 0) ∧ zf 130 149 = some (.getfield 44) ∧ zf 130 152 = some (.iload_n 1) ∧ zf 130 153 = some (.laload) ∧ zf 130 154 = some (.aload_n 0) ∧ zf 130 155 = some (.getfield 13) ∧ zf 130 158 = some (.iload_n 1) ∧ zf 130 159 = some (.iaload) ∧ zf 130 160 = some (.i2l) := by decide +kernel
theorem f130_137 : zf 130 137 = some (.isub) := cf130_137.1
theorem f130_138 : zf 130 138 = some (.iastore) := cf130_137.2.1
theorem f130_139 : zf 130 139 = some (.aload_n 0) := cf130_137.2.2.1
theorem f130_140 : zf 130 140 = some (.getfield 80) := cf130_137.2.2.2.1
theorem f130_143 : zf 130 143 = some (.iload_n 1) := cf130_137.2.2.2.2.1
theorem f130_144 : zf 130 144 = some (.iaload) := cf130_137.2.2.2.2.2.1
theorem f130_145 : zf 130 145 = some (.ifCond .le 60) := cf130_137.2.2.2.2.2.2.1
theorem f130_148 : zf 130 148 = some (.aload_n 0) := cf130_137.2.2.2.2.2.2.2.1
theorem f130_149 : zf 130 149 = some (.getfield 44) := cf130_137.2.2.2.2.2.2.2.2.1
theorem f130_152 : zf 130 152 = some (.iload_n 1) := cf130_137.2.2.2.2.2.2.2.2.2.1
theorem f130_153 : zf 130 153 = some (.laload) := cf130_137.2.2.2.2.2.2.2.2.2.2.1
theorem f130_154 : zf 130 154 = some (.aload_n 0) := cf130_137.2.2.2.2.2.2.2.2.2.2.2.1
theorem f130_155 : zf 130 155 = some (.getfield 13) := cf130_137.2.2.2.2.2.2.2.2.2.2.2.2.1
theorem f130_158 : zf 130 158 = some (.iload_n 1) := cf130_137.2.2.2.2.2.2.2.2.2.2.2.2.2.1
theorem f130_159 : zf 130 159 = some (.iaload) := cf130_137.2.2.2.2.2.2.2.2.2.2.2.2.2.2.1
theorem f130_160 : zf 130 160 = some (.i2l) := cf130_137.2.2.2.2.2.2.2.2.2.2.2.2.2.2.2
theorem cf130_161 : zf 130 161 = some (.aload_n 0) ∧ zf 130 162 = some (.getfield 40) ∧ zf 130 165 = some (.lmul) ∧ zf 130 166 = some (.lcmp) ∧ zf 130 167 = some (.ifCond .ne 38) ∧ zf 130 170 = some (.aload_n 0) ∧ zf 130 171 = some (.getfield 83) ∧ zf 130 174 = some (.iload_n 1) ∧ zf 130 175 = some (.aload_n 0) ∧ zf 130 176 = some (.getfield 80) ∧ zf 130 179 = some (.iload_n 1) ∧ zf 130 180 = some (.iaload) ∧ zf 130 181 = some (.iastore) ∧ zf 130 182 = some (.aload_n 0) ∧ zf 130 183 = some (.getfield 80) ∧ zf 130 186 = some (.iload_n 1) := by decide +kernel
theorem f130_161 : zf 130 161 = some (.aload_n 0) := cf130_161.1
theorem f130_162 : zf 130 162 = some (.getfield 40) := cf130_161.2.1
theorem f130_165 : zf 130 165 = some (.lmul) := cf130_161.2.2.1
theorem f130_166 : zf 130 166 = some (.lcmp) := cf130_161.2.2.2.1
theorem f130_167 : zf 130 167 = some (.ifCond .ne 38) := cf130_161.2.2.2.2.1
theorem f130_170 : zf 130 170 = some (.aload_n 0) := cf130_161.2.2.2.2.2.1
theorem f130_171 : zf 130 171 = some (.getfield 83) := cf130_161.2.2.2.2.2.2.1
theorem f130_174 : zf 130 174 = some (.iload_n 1) := cf130_161.2.2.2.2.2.2.2.1
theorem f130_175 : zf 130 175 = some (.aload_n 0) := cf130_161.2.2.2.2.2.2.2.2.1
theorem f130_176 : zf 130 176 = some (.getfield 80) := cf130_161.2.2.2.2.2.2.2.2.2.1
theorem f130_179 : zf 130 179 = some (.iload_n 1) := cf130_161.2.2.2.2.2.2.2.2.2.2.1
theorem f130_180 : zf 130 180 = some (.iaload) := cf130_161.2.2.2.2.2.2.2.2.2.2.2.1
theorem f130_181 : zf 130 181 = some (.iastore) := cf130_161.2.2.2.2.2.2.2.2.2.2.2.2.1
theorem f130_182 : zf 130 182 = some (.aload_n 0) := cf130_161.2.2.2.2.2.2.2.2.2.2.2.2.2.1
theorem f130_183 : zf 130 183 = some (.getfield 80) := cf130_161.2.2.2.2.2.2.2.2.2.2.2.2.2.2.1
theorem f130_186 : zf 130 186 = some (.iload_n 1) := cf130_161.2.2.2.2.2.2.2.2.2.2.2.2.2.2.2
theorem cf130_187 : zf 130 187 = some (.iconst 0) ∧ zf 130 188 = some (.iastore) ∧ zf 130 189 = some (.aload_n 0) ∧ zf 130 190 = some (.aload_n 0) ∧ zf 130 191 = some (.getfield 28) ∧ zf 130 194 = some (.iload_n 1) ∧ zf 130 195 = some (.iaload) ∧ zf 130 196 = some (.aload_n 0) ∧ zf 130 197 = some (.getfield 83) ∧ zf 130 200 = some (.iload_n 1) ∧ zf 130 201 = some (.iaload) ∧ zf 130 202 = some (.invokevirtual 134) ∧ zf 130 205 = some (.return_) := by decide +kernel
theorem f130_187 : zf 130 187 = some (.iconst 0) := cf130_187.1
theorem f130_188 : zf 130 188 = some (.iastore) := cf130_187.2.1
theorem f130_189 : zf 130 189 = some (.aload_n 0) := cf130_187.2.2.1
theorem f130_190 : zf 130 190 = some (.aload_n 0) := cf130_187.2.2.2.1
theorem f130_191 : zf 130 191 = some (.getfield 28) := cf130_187.2.2.2.2.1
theorem f130_194 : zf 130 194 = some (.iload_n 1) := cf130_187.2.2.2.2.2.1
theorem f130_195 : zf 130 195 = some (.iaload) := cf130_187.2.2.2.2.2.2.1
theorem f130_196 : zf 130 196 = some (.aload_n 0) := cf130_187.2.2.2.2.2.2.2.1
theorem f130_197 : zf 130 197 = some (.getfield 83) := cf130_187.2.2.2.2.2.2.2.2.1
theorem f130_200 : zf 130 200 = some (.iload_n 1) := cf130_187.2.2.2.2.2.2.2.2.2.1
theorem f130_201 : zf 130 201 = some (.iaload) := cf130_187.2.2.2.2.2.2.2.2.2.2.1
theorem f130_202 : zf 130 202 = some (.invokevirtual 134) := cf130_187.2.2.2.2.2.2.2.2.2.2.2.1
theorem f130_205 : zf 130 205 = some (.return_) := cf130_187.2.2.2.2.2.2.2.2.2.2.2.2
theorem cf131_0 : zf 131 0 = some (.lload_n 1) ∧ zf 131 1 = some (.lconst 0) ∧ zf 131 2 = some (.lcmp) ∧ zf 131 3 = some (.ifCond .le 56) ∧ zf 131 6 = some (.iload_n 3) ∧ zf 131 7 = some (.ifCond .le 52) ∧ zf 131 10 = some (.aload_n 0) ∧ zf 131 11 = some (.getfield 40) ∧ zf 131 14 = some (.iload_n 3) ∧ zf 131 15 = some (.i2l) ∧ zf 131 16 = some (.lmul) ∧ zf 131 17 = some (.lstore 4) ∧ zf 131 19 = some (.aload_n 0) ∧ zf 131 20 = some (.getfield 142) ∧ zf 131 23 = some (.ifCond .ne 20) ∧ zf 131 26 = some (.lload_n 1) := by decide +kernel
theorem f131_0 : zf 131 0 = some (.lload_n 1) := cf131_0.1
theorem f131_1 : zf 131 1 = some (.lconst 0) := cf131_0.2.1
theorem f131_2 : zf 131 2 = some (.lcmp) := cf131_0.2.2.1
theorem f131_3 : zf 131 3 = some (.ifCond .le 56) := cf131_0.2.2.2.1
theorem f131_6 : zf 131 6 = some (.iload_n 3) := cf131_0.2.2.2.2.1
theorem f131_7 : zf 131 7 = some (.ifCond .le 52) := cf131_0.2.2.2.2.2.1
theorem f131_10 : zf 131 10 = some (.aload_n 0) := cf131_0.2.2.2.2.2.2.1
theorem f131_11 : zf 131 11 = some (.getfield 40) := cf131_0.2.2.2.2.2.2.2.1
theorem f131_14 : zf 131 14 = some (.iload_n 3) := cf131_0.2.2.2.2.2.2.2.2.1
theorem f131_15 : zf 131 15 = some (.i2l) := cf131_0.2.2.2.2.2.2.2.2.2.1
theorem f131_16 : zf 131 16 = some (.lmul) := cf131_0.2.2.2.2.2.2.2.2.2.2.1
theorem f131_17 : zf 131 17 = some (.lstore 4) := cf131_0.2.2.2.2.2.2.2.2.2.2.2.1
theorem f131_19 : zf 131 19 = some (.aload_n 0) := cf131_0.2.2.2.2.2.2.2.2.2.2.2.2.1
theorem f131_20 : zf 131 20 = some (.getfield 142) := cf131_0.2.2.2.2.2.2.2.2.2.2.2.2.2.1
theorem f131_23 : zf 131 23 = some (.ifCond .ne 20) := cf131_0.2.2.2.2.2.2.2.2.2.2.2.2.2.2.1
theorem f131_26 : zf 131 26 = some (.lload_n 1) := cf131_0.2.2.2.2.2.2.2.2.2.2.2.2.2.2.2
theorem cf131_27 : zf 131 27 = some (.aload_n 0) ∧ zf 131 28 = some (.getfield 145) ∧ zf 131 31 = some (.lmul) ∧ zf 131 32 = some (.aload_n 0) ∧ zf 131 33 = some (.getfield 148) ∧ zf 131 36 = some (.lload 4) ∧ zf 131 38 = some (.lmul) ∧ zf 131 39 = some (.lcmp) ∧ zf 131 40 = some (.ifCond .ge 19) ∧ zf 131 43 = some (.aload_n 0) ∧ zf 131 44 = some (.lload_n 1) ∧ zf 131 45 = some (.putfield 148) ∧ zf 131 48 = some (.aload_n 0) ∧ zf 131 49 = some (.lload 4) ∧ zf 131 51 = some (.putfield 145) ∧ zf 131 54 = some (.aload_n 0) := by decide +kernel
theorem f131_27 : zf 131 27 = some (.aload_n 0) := cf131_27.1
theorem f131_28 : zf 131 28 = some (.getfield 145) := cf131_27.2.1
theorem f131_31 : zf 131 31 = some (.lmul) := cf131_27.2.2.1
theorem f131_32 : zf 131 32 = some (.aload_n 0) := cf131_27.2.2.2.1
theorem f131_33 : zf 131 33 = some (.getfield 148) := cf131_27.2.2.2.2.1
theorem f131_36 : zf 131 36 = some (.lload 4) := cf131_27.2.2.2.2.2.1
theorem f131_38 : zf 131 38 = some (.lmul) := cf131_27.2.2.2.2.2.2.1
theorem f131_39 : zf 131 39 = some (.lcmp) := cf131_27.2.2.2.2.2.2.2.1
theorem f131_40 : zf 131 40 = some (.ifCond .ge 19) := cf131_27.2.2.2.2.2.2.2.2.1
theorem f131_43 : zf 131 43 = some (.aload_n 0) := cf131_27.2.2.2.2.2.2.2.2.2.1
theorem f131_44 : zf 131 44 = some (.lload_n 1) := cf131_27.2.2.2.2.2.2.2.2.2.2.1
theorem f131_45 : zf 131 45 = some (.putfield 148) := cf131_27.2.2.2.2.2.2.2.2.2.2.2.1
theorem f131_48 : zf 131 48 = some (.aload_n 0) := cf131_27.2.2.2.2.2.2.2.2.2.2.2.2.1
theorem f131_49 : zf 131 49 = some (.lload 4) := cf131_27.2.2.2.2.2.2.2.2.2.2.2.2.2.1
theorem f131_51 : zf 131 51 = some (.putfield 145) := cf131_27.2.2.2.2.2.2.2.2.2.2.2.2.2.2.1
theorem f131_54 : zf 131 54 = some (.aload_n 0) := cf131_27.2.2.2.2.2.2.2.2.2.2.2.2.2.2.2
theorem cf131_55 : zf 131 55 = some (.iconst 0) ∧ zf 131 56 = some (.putfield 142) ∧ zf 131 59 = some (.return_) := by decide +kernel
theorem f131_55 : zf 131 55 = some (.iconst 0) := cf131_55.1
theorem f131_56 : zf 131 56 = some (.putfield 142) := cf131_55.2.1
theorem f131_59 : zf 131 59 = some (.return_) := cf131_55.2.2
theorem cf132_0 : zf 132 0 = some (.aload_n 0) ∧ zf 132 1 = some (.invokevirtual 151) ∧ zf 132 4 = some (.aload_n 0) ∧ zf 132 5 = some (.iconst 1) ∧ zf 132 6 = some (.putfield 142) ∧ zf 132 9 = some (.iconst 0) ∧ zf 132 10 = some (.istore_n 1) ∧ zf 132 11 = some (.iload_n 1) ∧ zf 132 12 = some (.aload_n 0) ∧ zf 132 13 = some (.getfield 114) ∧ zf 132 16 = some (.if_icmp .ge 163) ∧ zf 132 19 = some (.aload_n 0) ∧ zf 132 20 = some (.getfield 80) ∧ zf 132 23 = some (.iload_n 1) ∧ zf 132 24 = some (.iaload) ∧ zf 132 25 = some (.istore_n 2) := by decide +kernel
theorem f132_0 : zf 132 0 = some (.aload_n 0) := cf132_0.1
theorem f132_1 : zf 132 1 = some (.invokevirtual 151) := cf132_0.2.1
theorem f132_4 : zf 132 4 = some (.aload_n 0) := cf132_0.2.2.1
theorem f132_5 : zf 132 5 = some (.iconst 1) := cf132_0.2.2.2.1
theorem f132_6 : zf 132 6 = some (.putfield 142) := cf132_0.2.2.2.2.1
theorem f132_9 : zf 132 9 = some (.iconst 0) := cf132_0.2.2.2.2.2.1
theorem f132_10 : zf 132 10 = some (.istore_n 1) := cf132_0.2.2.2.2.2.2.1
theorem f132_11 : zf 132 11 = some (.iload_n 1) := cf132_0.2.2.2.2.2.2.2.1
theorem f132_12 : zf 132 12 = some (.aload_n 0) := cf132_0.2.2.2.2.2.2.2.2.1
theorem f132_13 : zf 132 13 = some (.getfield 114) := cf132_0.2.2.2.2.2.2.2.2.2.1
theorem f132_16 : zf 132 16 = some (.if_icmp .ge 163) := cf132_0.2.2.2.2.2.2.2.2.2.2.1
theorem f132_19 : zf 132 19 = some (.aload_n 0) := cf132_0.2.2.2.2.2.2.2.2.2.2.2.1
theorem f132_20 : zf 132 20 = some (.getfield 80) := cf132_0.2.2.2.2.2.2.2.2.2.2.2.2.1
theorem f132_23 : zf 132 23 = some (.iload_n 1) := cf132_0.2.2.2.2.2.2.2.2.2.2.2.2.2.1
theorem f132_24 : zf 132 24 = some (.iaload) := cf132_0.2.2.2.2.2.2.2.2.2.2.2.2.2.2.1
theorem f132_25 : zf 132 25 = some (.istore_n 2) := cf132_0.2.2.2.2.2.2.2.2.2.2.2.2.2.2.2
theorem cf132_26 : zf 132 26 = some (.aload_n 0) ∧ zf 132 27 = some (.getfield 16) ∧ zf 132 30 = some (.iload_n 1) ∧ zf 132 31 = some (.iaload) ∧ zf 132 32 = some (.i2l) ∧ zf 132 33 = some (.aload_n 0) ∧ zf 132 34 = some (.getfield 40) ∧ zf 132 37 = some (.lmul) ∧ zf 132 38 = some (.aload_n 0) ∧ zf 132 39 = some (.getfield 44) ∧ zf 132 42 = some (.iload_n 1) ∧ zf 132 43 = some (.laload) ∧ zf 132 44 = some (.lsub) ∧ zf 132 45 = some (.lstore_n 3) ∧ zf 132 46 = some (.aload_n 0) ∧ zf 132 47 = some (.aload_n 0) := by decide +kernel
theorem f132_26 : zf 132 26 = some (.aload_n 0) := cf132_26.1
theorem f132_27 : zf 132 27 = some (.getfield 16) := cf132_26.2.1
theorem f132_30 : zf 132 30 = some (.iload_n 1) := cf132_26.2.2.1
theorem f132_31 : zf 132 31 = some (.iaload) := cf132_26.2.2.2.1
theorem f132_32 : zf 132 32 = some (.i2l) := cf132_26.2.2.2.2.1
theorem f132_33 : zf 132 33 = some (.aload_n 0) := cf132_26.2.2.2.2.2.1
theorem f132_34 : zf 132 34 = some (.getfield 40) := cf132_26.2.2.2.2.2.2.1
theorem f132_37 : zf 132 37 = some (.lmul) := cf132_26.2.2.2.2.2.2.2.1
theorem f132_38 : zf 132 38 = some (.aload_n 0) := cf132_26.2.2.2.2.2.2.2.2.1
theorem f132_39 : zf 132 39 = some (.getfield 44) := cf132_26.2.2.2.2.2.2.2.2.2.1
theorem f132_42 : zf 132 42 = some (.iload_n 1) := cf132_26.2.2.2.2.2.2.2.2.2.2.1
theorem f132_43 : zf 132 43 = some (.laload) := cf132_26.2.2.2.2.2.2.2.2.2.2.2.1
theorem f132_44 : zf 132 44 = some (.lsub) := cf132_26.2.2.2.2.2.2.2.2.2.2.2.2.1
theorem f132_45 : zf 132 45 = some (.lstore_n 3) := cf132_26.2.2.2.2.2.2.2.2.2.2.2.2.2.1
theorem f132_46 : zf 132 46 = some (.aload_n 0) := cf132_26.2.2.2.2.2.2.2.2.2.2.2.2.2.2.1
theorem f132_47 : zf 132 47 = some (.aload_n 0) := cf132_26.2.2.2.2.2.2.2.2.2.2.2.2.2.2.2
theorem cf132_48 : zf 132 48 = some (.getfield 13) ∧ zf 132 51 = some (.iload_n 1) ∧ zf 132 52 = some (.iaload) ∧ zf 132 53 = some (.i2l) ∧ zf 132 54 = some (.aload_n 0) ∧ zf 132 55 = some (.getfield 40) ∧ zf 132 58 = some (.lmul) ∧ zf 132 59 = some (.aload_n 0) ∧ zf 132 60 = some (.getfield 44) ∧ zf 132 63 = some (.iload_n 1) ∧ zf 132 64 = some (.laload) ∧ zf 132 65 = some (.lsub) ∧ zf 132 66 = some (.iload_n 2) ∧ zf 132 67 = some (.invokevirtual 154) ∧ zf 132 70 = some (.aload_n 0) ∧ zf 132 71 = some (.aload_n 0) := by decide +kernel
theorem f132_48 : zf 132 48 = some (.getfield 13) := cf132_48.1
theorem f132_51 : zf 132 51 = some (.iload_n 1) := cf132_48.2.1
theorem f132_52 : zf 132 52 = some (.iaload) := cf132_48.2.2.1
theorem f132_53 : zf 132 53 = some (.i2l) := cf132_48.2.2.2.1
theorem f132_54 : zf 132 54 = some (.aload_n 0) := cf132_48.2.2.2.2.1
theorem f132_55 : zf 132 55 = some (.getfield 40) := cf132_48.2.2.2.2.2.1
theorem f132_58 : zf 132 58 = some (.lmul) := cf132_48.2.2.2.2.2.2.1
theorem f132_59 : zf 132 59 = some (.aload_n 0) := cf132_48.2.2.2.2.2.2.2.1
theorem f132_60 : zf 132 60 = some (.getfield 44) := cf132_48.2.2.2.2.2.2.2.2.1
theorem f132_63 : zf 132 63 = some (.iload_n 1) := cf132_48.2.2.2.2.2.2.2.2.2.1
theorem f132_64 : zf 132 64 = some (.laload) := cf132_48.2.2.2.2.2.2.2.2.2.2.1
theorem f132_65 : zf 132 65 = some (.lsub) := cf132_48.2.2.2.2.2.2.2.2.2.2.2.1
theorem f132_66 : zf 132 66 = some (.iload_n 2) := cf132_48.2.2.2.2.2.2.2.2.2.2.2.2.1
theorem f132_67 : zf 132 67 = some (.invokevirtual 154) := cf132_48.2.2.2.2.2.2.2.2.2.2.2.2.2.1
theorem f132_70 : zf 132 70 = some (.aload_n 0) := cf132_48.2.2.2.2.2.2.2.2.2.2.2.2.2.2.1
theorem f132_71 : zf 132 71 = some (.aload_n 0) := cf132_48.2.2.2.2.2.2.2.2.2.2.2.2.2.2.2
theorem cf132_72 : zf 132 72 = some (.getfield 44) ∧ zf 132 75 = some (.iload_n 1) ∧ zf 132 76 = some (.laload) ∧ zf 132 77 = some (.iload_n 2) ∧ zf 132 78 = some (.ineg) ∧ zf 132 79 = some (.invokevirtual 154) ∧ zf 132 82 = some (.aload_n 0) ∧ zf 132 83 = some (.getfield 7) ∧ zf 132 86 = some (.iload_n 1) ∧ zf 132 87 = some (.iaload) ∧ zf 132 88 = some (.iconst 1) ∧ zf 132 89 = some (.if_icmp .ne 18) ∧ zf 132 92 = some (.aload_n 0) ∧ zf 132 93 = some (.getfield 52) ∧ zf 132 96 = some (.iload_n 1) ∧ zf 132 97 = some (.baload) := by decide +kernel
theorem f132_72 : zf 132 72 = some (.getfield 44) := cf132_72.1
theorem f132_75 : zf 132 75 = some (.iload_n 1) := cf132_72.2.1
theorem f132_76 : zf 132 76 = some (.laload) := cf132_72.2.2.1
theorem f132_77 : zf 132 77 = some (.iload_n 2) := cf132_72.2.2.2.1
theorem f132_78 : zf 132 78 = some (.ineg) := cf132_72.2.2.2.2.1
theorem f132_79 : zf 132 79 = some (.invokevirtual 154) := cf132_72.2.2.2.2.2.1
theorem f132_82 : zf 132 82 = some (.aload_n 0) := cf132_72.2.2.2.2.2.2.1
theorem f132_83 : zf 132 83 = some (.getfield 7) := cf132_72.2.2.2.2.2.2.2.1
theorem f132_86 : zf 132 86 = some (.iload_n 1) := cf132_72.2.2.2.2.2.2.2.2.1
theorem f132_87 : zf 132 87 = some (.iaload) := cf132_72.2.2.2.2.2.2.2.2.2.1
theorem f132_88 : zf 132 88 = some (.iconst 1) := cf132_72.2.2.2.2.2.2.2.2.2.2.1
theorem f132_89 : zf 132 89 = some (.if_icmp .ne 18) := cf132_72.2.2.2.2.2.2.2.2.2.2.2.1
theorem f132_92 : zf 132 92 = some (.aload_n 0) := cf132_72.2.2.2.2.2.2.2.2.2.2.2.2.1
theorem f132_93 : zf 132 93 = some (.getfield 52) := cf132_72.2.2.2.2.2.2.2.2.2.2.2.2.2.1
theorem f132_96 : zf 132 96 = some (.iload_n 1) := cf132_72.2.2.2.2.2.2.2.2.2.2.2.2.2.2.1
theorem f132_97 : zf 132 97 = some (.baload) := cf132_72.2.2.2.2.2.2.2.2.2.2.2.2.2.2.2
theorem cf132_98 : zf 132 98 = some (.ifCond .ne 9) ∧ zf 132 101 = some (.aload_n 0) ∧ zf 132 102 = some (.lload_n 3) ∧ zf 132 103 = some (.iload_n 2) ∧ zf 132 104 = some (.invokevirtual 154) ∧ zf 132 107 = some (.aload_n 0) ∧ zf 132 108 = some (.iload_n 1) ∧ zf 132 109 = some (.invokevirtual 158) ∧ zf 132 112 = some (.ifCond .eq 61) ∧ zf 132 115 = some (.aload_n 0) ∧ zf 132 116 = some (.getfield 22) ∧ zf 132 119 = some (.iload_n 1) ∧ zf 132 120 = some (.iaload) ∧ zf 132 121 = some (.iconst (-1)) ∧ zf 132 122 = some (.if_icmp .eq 51) ∧ zf 132 125 = some (.aload_n 0) := by decide +kernel
theorem f132_98 : zf 132 98 = some (.ifCond .ne 9) := cf132_98.1
theorem f132_101 : zf 132 101 = some (.aload_n 0) := cf132_98.2.1
theorem f132_102 : zf 132 102 = some (.lload_n 3) := cf132_98.2.2.1
theorem f132_103 : zf 132 103 = some (.iload_n 2) := cf132_98.2.2.2.1
theorem f132_104 : zf 132 104 = some (.invokevirtual 154) := cf132_98.2.2.2.2.1
theorem f132_107 : zf 132 107 = some (.aload_n 0) := cf132_98.2.2.2.2.2.1
theorem f132_108 : zf 132 108 = some (.iload_n 1) := cf132_98.2.2.2.2.2.2.1
theorem f132_109 : zf 132 109 = some (.invokevirtual 158) := cf132_98.2.2.2.2.2.2.2.1
theorem f132_112 : zf 132 112 = some (.ifCond .eq 61) := cf132_98.2.2.2.2.2.2.2.2.1
theorem f132_115 : zf 132 115 = some (.aload_n 0) := cf132_98.2.2.2.2.2.2.2.2.2.1
theorem f132_116 : zf 132 116 = some (.getfield 22) := cf132_98.2.2.2.2.2.2.2.2.2.2.1
theorem f132_119 : zf 132 119 = some (.iload_n 1) := cf132_98.2.2.2.2.2.2.2.2.2.2.2.1
theorem f132_120 : zf 132 120 = some (.iaload) := cf132_98.2.2.2.2.2.2.2.2.2.2.2.2.1
theorem f132_121 : zf 132 121 = some (.iconst (-1)) := cf132_98.2.2.2.2.2.2.2.2.2.2.2.2.2.1
theorem f132_122 : zf 132 122 = some (.if_icmp .eq 51) := cf132_98.2.2.2.2.2.2.2.2.2.2.2.2.2.2.1
theorem f132_125 : zf 132 125 = some (.aload_n 0) := cf132_98.2.2.2.2.2.2.2.2.2.2.2.2.2.2.2
theorem cf132_126 : zf 132 126 = some (.getfield 48) ∧ zf 132 129 = some (.aload_n 0) ∧ zf 132 130 = some (.getfield 22) ∧ zf 132 133 = some (.iload_n 1) ∧ zf 132 134 = some (.iaload) ∧ zf 132 135 = some (.baload) ∧ zf 132 136 = some (.ifCond .eq 12) ∧ zf 132 139 = some (.aload_n 0) ∧ zf 132 140 = some (.lload_n 3) ∧ zf 132 141 = some (.iload_n 2) ∧ zf 132 142 = some (.invokevirtual 154) ∧ zf 132 145 = some (.goto 28) ∧ zf 132 148 = some (.aload_n 0) ∧ zf 132 149 = some (.aload_n 0) ∧ zf 132 150 = some (.getfield 44) ∧ zf 132 153 = some (.iload_n 1) := by decide +kernel
theorem f132_126 : zf 132 126 = some (.getfield 48) := cf132_126.1
theorem f132_129 : zf 132 129 = some (.aload_n 0) := cf132_126.2.1
theorem f132_130 : zf 132 130 = some (.getfield 22) := cf132_126.2.2.1
theorem f132_133 : zf 132 133 = some (.iload_n 1) := cf132_126.2.2.2.1
theorem f132_134 : zf 132 134 = some (.iaload) := cf132_126.2.2.2.2.1
theorem f132_135 : zf 132 135 = some (.baload) := cf132_126.2.2.2.2.2.1
theorem f132_136 : zf 132 136 = some (.ifCond .eq 12) := cf132_126.2.2.2.2.2.2.1
theorem f132_139 : zf 132 139 = some (.aload_n 0) := cf132_126.2.2.2.2.2.2.2.1
theorem f132_140 : zf 132 140 = some (.lload_n 3) := cf132_126.2.2.2.2.2.2.2.2.1
theorem f132_141 : zf 132 141 = some (.iload_n 2) := cf132_126.2.2.2.2.2.2.2.2.2.1
theorem f132_142 : zf 132 142 = some (.invokevirtual 154) := cf132_126.2.2.2.2.2.2.2.2.2.2.1
theorem f132_145 : zf 132 145 = some (.goto 28) := cf132_126.2.2.2.2.2.2.2.2.2.2.2.1
theorem f132_148 : zf 132 148 = some (.aload_n 0) := cf132_126.2.2.2.2.2.2.2.2.2.2.2.2.1
theorem f132_149 : zf 132 149 = some (.aload_n 0) := cf132_126.2.2.2.2.2.2.2.2.2.2.2.2.2.1
theorem f132_150 : zf 132 150 = some (.getfield 44) := cf132_126.2.2.2.2.2.2.2.2.2.2.2.2.2.2.1
theorem f132_153 : zf 132 153 = some (.iload_n 1) := cf132_126.2.2.2.2.2.2.2.2.2.2.2.2.2.2.2
theorem cf132_154 : zf 132 154 = some (.laload) ∧ zf 132 155 = some (.aload_n 0) ∧ zf 132 156 = some (.getfield 19) ∧ zf 132 159 = some (.iload_n 1) ∧ zf 132 160 = some (.iaload) ∧ zf 132 161 = some (.i2l) ∧ zf 132 162 = some (.aload_n 0) ∧ zf 132 163 = some (.getfield 40) ∧ zf 132 166 = some (.lmul) ∧ zf 132 167 = some (.lsub) ∧ zf 132 168 = some (.iload_n 2) ∧ zf 132 169 = some (.ineg) ∧ zf 132 170 = some (.invokevirtual 154) ∧ zf 132 173 = some (.iinc 1 1) ∧ zf 132 176 = some (.goto (-165)) ∧ zf 132 179 = some (.return_) := by decide +kernel
theorem f132_154 : zf 132 154 = some (.laload) := cf132_154.1
theorem f132_155 : zf 132 155 = some (.aload_n 0) := cf132_154.2.1
theorem f132_156 : zf 132 156 = some (.getfield 19) := cf132_154.2.2.1
theorem f132_159 : zf 132 159 = some (.iload_n 1) := cf132_154.2.2.2.1
theorem f132_160 : zf 132 160 = some (.iaload) := cf132_154.2.2.2.2.1
theorem f132_161 : zf 132 161 = some (.i2l) := cf132_154.2.2.2.2.2.1
theorem f132_162 : zf 132 162 = some (.aload_n 0) := cf132_154.2.2.2.2.2.2.1
theorem f132_163 : zf 132 163 = some (.getfield 40) := cf132_154.2.2.2.2.2.2.2.1
theorem f132_166 : zf 132 166 = some (.lmul) := cf132_154.2.2.2.2.2.2.2.2.1
theorem f132_167 : zf 132 167 = some (.lsub) := cf132_154.2.2.2.2.2.2.2.2.2.1
theorem f132_168 : zf 132 168 = some (.iload_n 2) := cf132_154.2.2.2.2.2.2.2.2.2.2.1
theorem f132_169 : zf 132 169 = some (.ineg) := cf132_154.2.2.2.2.2.2.2.2.2.2.2.1
theorem f132_170 : zf 132 170 = some (.invokevirtual 154) := cf132_154.2.2.2.2.2.2.2.2.2.2.2.2.1
theorem f132_173 : zf 132 173 = some (.iinc 1 1) := cf132_154.2.2.2.2.2.2.2.2.2.2.2.2.2.1
theorem f132_176 : zf 132 176 = some (.goto (-165)) := cf132_154.2.2.2.2.2.2.2.2.2.2.2.2.2.2.1
theorem f132_179 : zf 132 179 = some (.return_) := cf132_154.2.2.2.2.2.2.2.2.2.2.2.2.2.2.2
theorem cf133_0 : zf 133 0 = some (.lload_n 1) ∧ zf 133 1 = some (.lload 9) ∧ zf 133 3 = some (.aload_n 0) ∧ zf 133 4 = some (.getfield 40) ∧ zf 133 7 = some (.ldiv) ∧ zf 133 8 = some (.lmul) ∧ zf 133 9 = some (.lload_n 3) ∧ zf 133 10 = some (.lload 5) ∧ zf 133 12 = some (.lmul) ∧ zf 133 13 = some (.lload 9) ∧ zf 133 15 = some (.lload 7) ∧ zf 133 17 = some (.ldiv) ∧ zf 133 18 = some (.lmul) ∧ zf 133 19 = some (.ladd) ∧ zf 133 20 = some (.lstore 11) ∧ zf 133 22 = some (.aload_n 0) := by decide +kernel
theorem f133_0 : zf 133 0 = some (.lload_n 1) := cf133_0.1
theorem f133_1 : zf 133 1 = some (.lload 9) := cf133_0.2.1
theorem f133_3 : zf 133 3 = some (.aload_n 0) := cf133_0.2.2.1
theorem f133_4 : zf 133 4 = some (.getfield 40) := cf133_0.2.2.2.1
theorem f133_7 : zf 133 7 = some (.ldiv) := cf133_0.2.2.2.2.1
theorem f133_8 : zf 133 8 = some (.lmul) := cf133_0.2.2.2.2.2.1
theorem f133_9 : zf 133 9 = some (.lload_n 3) := cf133_0.2.2.2.2.2.2.1
theorem f133_10 : zf 133 10 = some (.lload 5) := cf133_0.2.2.2.2.2.2.2.1
theorem f133_12 : zf 133 12 = some (.lmul) := cf133_0.2.2.2.2.2.2.2.2.1
theorem f133_13 : zf 133 13 = some (.lload 9) := cf133_0.2.2.2.2.2.2.2.2.2.1
theorem f133_15 : zf 133 15 = some (.lload 7) := cf133_0.2.2.2.2.2.2.2.2.2.2.1
theorem f133_17 : zf 133 17 = some (.ldiv) := cf133_0.2.2.2.2.2.2.2.2.2.2.2.1
theorem f133_18 : zf 133 18 = some (.lmul) := cf133_0.2.2.2.2.2.2.2.2.2.2.2.2.1
theorem f133_19 : zf 133 19 = some (.ladd) := cf133_0.2.2.2.2.2.2.2.2.2.2.2.2.2.1
theorem f133_20 : zf 133 20 = some (.lstore 11) := cf133_0.2.2.2.2.2.2.2.2.2.2.2.2.2.2.1
theorem f133_22 : zf 133 22 = some (.aload_n 0) := cf133_0.2.2.2.2.2.2.2.2.2.2.2.2.2.2.2
theorem cf133_23 : zf 133 23 = some (.lload 11) ∧ zf 133 25 = some (.aload_n 0) ∧ zf 133 26 = some (.getfield 161) ∧ zf 133 29 = some (.invokestatic 164) ∧ zf 133 32 = some (.putfield 161) ∧ zf 133 35 = some (.lload 11) ∧ zf 133 37 = some (.lreturn) := by decide +kernel
theorem f133_23 : zf 133 23 = some (.lload 11) := cf133_23.1
theorem f133_25 : zf 133 25 = some (.aload_n 0) := cf133_23.2.1
theorem f133_26 : zf 133 26 = some (.getfield 161) := cf133_23.2.2.1
theorem f133_29 : zf 133 29 = some (.invokestatic 164) := cf133_23.2.2.2.1
theorem f133_32 : zf 133 32 = some (.putfield 161) := cf133_23.2.2.2.2.1
theorem f133_35 : zf 133 35 = some (.lload 11) := cf133_23.2.2.2.2.2.1
theorem f133_37 : zf 133 37 = some (.lreturn) := cf133_23.2.2.2.2.2.2
theorem cf134_0 : zf 134 0 = some (.lload_n 1) ∧ zf 134 1 = some (.lload_n 3) ∧ zf 134 2 = some (.invokestatic 164) ∧ zf 134 5 = some (.lstore 5) ∧ zf 134 7 = some (.lload_n 1) ∧ zf 134 8 = some (.lload 5) ∧ zf 134 10 = some (.ldiv) ∧ zf 134 11 = some (.lstore 7) ∧ zf 134 13 = some (.lload_n 3) ∧ zf 134 14 = some (.lload 5) ∧ zf 134 16 = some (.ldiv) ∧ zf 134 17 = some (.lstore 9) ∧ zf 134 19 = some (.aload_n 0) ∧ zf 134 20 = some (.getfield 40) ∧ zf 134 23 = some (.aload_n 0) ∧ zf 134 24 = some (.getfield 40) := by decide +kernel
theorem f134_0 : zf 134 0 = some (.lload_n 1) := cf134_0.1
theorem f134_1 : zf 134 1 = some (.lload_n 3) := cf134_0.2.1
theorem f134_2 : zf 134 2 = some (.invokestatic 164) := cf134_0.2.2.1
theorem f134_5 : zf 134 5 = some (.lstore 5) := cf134_0.2.2.2.1
theorem f134_7 : zf 134 7 = some (.lload_n 1) := cf134_0.2.2.2.2.1
theorem f134_8 : zf 134 8 = some (.lload 5) := cf134_0.2.2.2.2.2.1
theorem f134_10 : zf 134 10 = some (.ldiv) := cf134_0.2.2.2.2.2.2.1
theorem f134_11 : zf 134 11 = some (.lstore 7) := cf134_0.2.2.2.2.2.2.2.1
theorem f134_13 : zf 134 13 = some (.lload_n 3) := cf134_0.2.2.2.2.2.2.2.2.1
theorem f134_14 : zf 134 14 = some (.lload 5) := cf134_0.2.2.2.2.2.2.2.2.2.1
theorem f134_16 : zf 134 16 = some (.ldiv) := cf134_0.2.2.2.2.2.2.2.2.2.2.1
theorem f134_17 : zf 134 17 = some (.lstore 9) := cf134_0.2.2.2.2.2.2.2.2.2.2.2.1
theorem f134_19 : zf 134 19 = some (.aload_n 0) := cf134_0.2.2.2.2.2.2.2.2.2.2.2.2.1
theorem f134_20 : zf 134 20 = some (.getfield 40) := cf134_0.2.2.2.2.2.2.2.2.2.2.2.2.2.1
theorem f134_23 : zf 134 23 = some (.aload_n 0) := cf134_0.2.2.2.2.2.2.2.2.2.2.2.2.2.2.1
theorem f134_24 : zf 134 24 = some (.getfield 40) := cf134_0.2.2.2.2.2.2.2.2.2.2.2.2.2.2.2
theorem cf134_27 : zf 134 27 = some (.lload 9) ∧ zf 134 29 = some (.invokestatic 164) ∧ zf 134 32 = some (.ldiv) ∧ zf 134 33 = some (.lload 9) ∧ zf 134 35 = some (.lmul) ∧ zf 134 36 = some (.lstore 11) ∧ zf 134 38 = some (.aload_n 0) ∧ zf 134 39 = some (.lload 11) ∧ zf 134 41 = some (.putfield 161) ∧ zf 134 44 = some (.iconst 0) ∧ zf 134 45 = some (.istore 13) ∧ zf 134 47 = some (.iload 13) ∧ zf 134 49 = some (.bipush 8) ∧ zf 134 51 = some (.if_icmp .ge 41) ∧ zf 134 54 = some (.aload_n 0) ∧ zf 134 55 = some (.getfield 89) := by decide +kernel
theorem f134_27 : zf 134 27 = some (.lload 9) := cf134_27.1
theorem f134_29 : zf 134 29 = some (.invokestatic 164) := cf134_27.2.1
theorem f134_32 : zf 134 32 = some (.ldiv) := cf134_27.2.2.1
theorem f134_33 : zf 134 33 = some (.lload 9) := cf134_27.2.2.2.1
theorem f134_35 : zf 134 35 = some (.lmul) := cf134_27.2.2.2.2.1
theorem f134_36 : zf 134 36 = some (.lstore 11) := cf134_27.2.2.2.2.2.1
theorem f134_38 : zf 134 38 = some (.aload_n 0) := cf134_27.2.2.2.2.2.2.1
theorem f134_39 : zf 134 39 = some (.lload 11) := cf134_27.2.2.2.2.2.2.2.1
theorem f134_41 : zf 134 41 = some (.putfield 161) := cf134_27.2.2.2.2.2.2.2.2.1
theorem f134_44 : zf 134 44 = some (.iconst 0) := cf134_27.2.2.2.2.2.2.2.2.2.1
theorem f134_45 : zf 134 45 = some (.istore 13) := cf134_27.2.2.2.2.2.2.2.2.2.2.1
theorem f134_47 : zf 134 47 = some (.iload 13) := cf134_27.2.2.2.2.2.2.2.2.2.2.2.1
theorem f134_49 : zf 134 49 = some (.bipush 8) := cf134_27.2.2.2.2.2.2.2.2.2.2.2.2.1
theorem f134_51 : zf 134 51 = some (.if_icmp .ge 41) := cf134_27.2.2.2.2.2.2.2.2.2.2.2.2.2.1
theorem f134_54 : zf 134 54 = some (.aload_n 0) := cf134_27.2.2.2.2.2.2.2.2.2.2.2.2.2.2.1
theorem f134_55 : zf 134 55 = some (.getfield 89) := cf134_27.2.2.2.2.2.2.2.2.2.2.2.2.2.2.2
theorem cf134_58 : zf 134 58 = some (.iload 13) ∧ zf 134 60 = some (.aload_n 0) ∧ zf 134 61 = some (.aload_n 0) ∧ zf 134 62 = some (.getfield 44) ∧ zf 134 65 = some (.iload 13) ∧ zf 134 67 = some (.laload) ∧ zf 134 68 = some (.aload_n 0) ∧ zf 134 69 = some (.getfield 80) ∧ zf 134 72 = some (.iload 13) ∧ zf 134 74 = some (.iaload) ∧ zf 134 75 = some (.i2l) ∧ zf 134 76 = some (.lload 7) ∧ zf 134 78 = some (.lload 9) ∧ zf 134 80 = some (.lload 11) ∧ zf 134 82 = some (.invokevirtual 168) ∧ zf 134 85 = some (.lastore) := by decide +kernel
theorem f134_58 : zf 134 58 = some (.iload 13) := cf134_58.1
theorem f134_60 : zf 134 60 = some (.aload_n 0) := cf134_58.2.1
theorem f134_61 : zf 134 61 = some (.aload_n 0) := cf134_58.2.2.1
theorem f134_62 : zf 134 62 = some (.getfield 44) := cf134_58.2.2.2.1
theorem f134_65 : zf 134 65 = some (.iload 13) := cf134_58.2.2.2.2.1
theorem f134_67 : zf 134 67 = some (.laload) := cf134_58.2.2.2.2.2.1
theorem f134_68 : zf 134 68 = some (.aload_n 0) := cf134_58.2.2.2.2.2.2.1
theorem f134_69 : zf 134 69 = some (.getfield 80) := cf134_58.2.2.2.2.2.2.2.1
theorem f134_72 : zf 134 72 = some (.iload 13) := cf134_58.2.2.2.2.2.2.2.2.1
theorem f134_74 : zf 134 74 = some (.iaload) := cf134_58.2.2.2.2.2.2.2.2.2.1
theorem f134_75 : zf 134 75 = some (.i2l) := cf134_58.2.2.2.2.2.2.2.2.2.2.1
theorem f134_76 : zf 134 76 = some (.lload 7) := cf134_58.2.2.2.2.2.2.2.2.2.2.2.1
theorem f134_78 : zf 134 78 = some (.lload 9) := cf134_58.2.2.2.2.2.2.2.2.2.2.2.2.1
theorem f134_80 : zf 134 80 = some (.lload 11) := cf134_58.2.2.2.2.2.2.2.2.2.2.2.2.2.1
theorem f134_82 : zf 134 82 = some (.invokevirtual 168) := cf134_58.2.2.2.2.2.2.2.2.2.2.2.2.2.2.1
theorem f134_85 : zf 134 85 = some (.lastore) := cf134_58.2.2.2.2.2.2.2.2.2.2.2.2.2.2.2
theorem cf134_86 : zf 134 86 = some (.iinc 13 1) ∧ zf 134 89 = some (.goto (-42)) ∧ zf 134 92 = some (.aload_n 0) ∧ zf 134 93 = some (.getfield 89) ∧ zf 134 96 = some (.bipush 8) ∧ zf 134 98 = some (.aload_n 0) ∧ zf 134 99 = some (.aload_n 0) ∧ zf 134 100 = some (.getfield 172) ∧ zf 134 103 = some (.lconst 1) ∧ zf 134 104 = some (.lload 7) ∧ zf 134 106 = some (.lload 9) ∧ zf 134 108 = some (.lload 11) ∧ zf 134 110 = some (.invokevirtual 168) ∧ zf 134 113 = some (.lastore) ∧ zf 134 114 = some (.aload_n 0) ∧ zf 134 115 = some (.getfield 89) := by decide +kernel
theorem f134_86 : zf 134 86 = some (.iinc 13 1) := cf134_86.1
theorem f134_89 : zf 134 89 = some (.goto (-42)) := cf134_86.2.1
theorem f134_92 : zf 134 92 = some (.aload_n 0) := cf134_86.2.2.1
theorem f134_93 : zf 134 93 = some (.getfield 89) := cf134_86.2.2.2.1
theorem f134_96 : zf 134 96 = some (.bipush 8) := cf134_86.2.2.2.2.1
theorem f134_98 : zf 134 98 = some (.aload_n 0) := cf134_86.2.2.2.2.2.1
theorem f134_99 : zf 134 99 = some (.aload_n 0) := cf134_86.2.2.2.2.2.2.1
theorem f134_100 : zf 134 100 = some (.getfield 172) := cf134_86.2.2.2.2.2.2.2.1
theorem f134_103 : zf 134 103 = some (.lconst 1) := cf134_86.2.2.2.2.2.2.2.2.1
theorem f134_104 : zf 134 104 = some (.lload 7) := cf134_86.2.2.2.2.2.2.2.2.2.1
theorem f134_106 : zf 134 106 = some (.lload 9) := cf134_86.2.2.2.2.2.2.2.2.2.2.1
theorem f134_108 : zf 134 108 = some (.lload 11) := cf134_86.2.2.2.2.2.2.2.2.2.2.2.1
theorem f134_110 : zf 134 110 = some (.invokevirtual 168) := cf134_86.2.2.2.2.2.2.2.2.2.2.2.2.1
theorem f134_113 : zf 134 113 = some (.lastore) := cf134_86.2.2.2.2.2.2.2.2.2.2.2.2.2.1
theorem f134_114 : zf 134 114 = some (.aload_n 0) := cf134_86.2.2.2.2.2.2.2.2.2.2.2.2.2.2.1
theorem f134_115 : zf 134 115 = some (.getfield 89) := cf134_86.2.2.2.2.2.2.2.2.2.2.2.2.2.2.2
theorem cf134_118 : zf 134 118 = some (.bipush 9) ∧ zf 134 120 = some (.aload_n 0) ∧ zf 134 121 = some (.aload_n 0) ∧ zf 134 122 = some (.getfield 175) ∧ zf 134 125 = some (.aload_n 0) ∧ zf 134 126 = some (.getfield 127) ∧ zf 134 129 = some (.i2l) ∧ zf 134 130 = some (.lload 7) ∧ zf 134 132 = some (.lload 9) ∧ zf 134 134 = some (.lload 11) ∧ zf 134 136 = some (.invokevirtual 168) ∧ zf 134 139 = some (.lastore) ∧ zf 134 140 = some (.aload_n 0) ∧ zf 134 141 = some (.getfield 89) ∧ zf 134 144 = some (.bipush 10) ∧ zf 134 146 = some (.aload_n 0) := by decide +kernel
theorem f134_118 : zf 134 118 = some (.bipush 9) := cf134_118.1
theorem f134_120 : zf 134 120 = some (.aload_n 0) := cf134_118.2.1
theorem f134_121 : zf 134 121 = some (.aload_n 0) := cf134_118.2.2.1
theorem f134_122 : zf 134 122 = some (.getfield 175) := cf134_118.2.2.2.1
theorem f134_125 : zf 134 125 = some (.aload_n 0) := cf134_118.2.2.2.2.1
theorem f134_126 : zf 134 126 = some (.getfield 127) := cf134_118.2.2.2.2.2.1
theorem f134_129 : zf 134 129 = some (.i2l) := cf134_118.2.2.2.2.2.2.1
theorem f134_130 : zf 134 130 = some (.lload 7) := cf134_118.2.2.2.2.2.2.2.1
theorem f134_132 : zf 134 132 = some (.lload 9) := cf134_118.2.2.2.2.2.2.2.2.1
theorem f134_134 : zf 134 134 = some (.lload 11) := cf134_118.2.2.2.2.2.2.2.2.2.1
theorem f134_136 : zf 134 136 = some (.invokevirtual 168) := cf134_118.2.2.2.2.2.2.2.2.2.2.1
theorem f134_139 : zf 134 139 = some (.lastore) := cf134_118.2.2.2.2.2.2.2.2.2.2.2.1
theorem f134_140 : zf 134 140 = some (.aload_n 0) := cf134_118.2.2.2.2.2.2.2.2.2.2.2.2.1
theorem f134_141 : zf 134 141 = some (.getfield 89) := cf134_118.2.2.2.2.2.2.2.2.2.2.2.2.2.1
theorem f134_144 : zf 134 144 = some (.bipush 10) := cf134_118.2.2.2.2.2.2.2.2.2.2.2.2.2.2.1
theorem f134_146 : zf 134 146 = some (.aload_n 0) := cf134_118.2.2.2.2.2.2.2.2.2.2.2.2.2.2.2
theorem cf134_147 : zf 134 147 = some (.aload_n 0) ∧ zf 134 148 = some (.getfield 178) ∧ zf 134 151 = some (.aload_n 0) ∧ zf 134 152 = some (.getfield 124) ∧ zf 134 155 = some (.i2l) ∧ zf 134 156 = some (.lload 7) ∧ zf 134 158 = some (.lload 9) ∧ zf 134 160 = some (.lload 11) ∧ zf 134 162 = some (.invokevirtual 168) ∧ zf 134 165 = some (.lastore) ∧ zf 134 166 = some (.lload 11) ∧ zf 134 168 = some (.aload_n 0) ∧ zf 134 169 = some (.getfield 161) ∧ zf 134 172 = some (.ldiv) ∧ zf 134 173 = some (.ldc2_w 181) ∧ zf 134 176 = some (.lcmp) := by decide +kernel
theorem f134_147 : zf 134 147 = some (.aload_n 0) := cf134_147.1
theorem f134_148 : zf 134 148 = some (.getfield 178) := cf134_147.2.1
theorem f134_151 : zf 134 151 = some (.aload_n 0) := cf134_147.2.2.1
theorem f134_152 : zf 134 152 = some (.getfield 124) := cf134_147.2.2.2.1
theorem f134_155 : zf 134 155 = some (.i2l) := cf134_147.2.2.2.2.1
theorem f134_156 : zf 134 156 = some (.lload 7) := cf134_147.2.2.2.2.2.1
theorem f134_158 : zf 134 158 = some (.lload 9) := cf134_147.2.2.2.2.2.2.1
theorem f134_160 : zf 134 160 = some (.lload 11) := cf134_147.2.2.2.2.2.2.2.1
theorem f134_162 : zf 134 162 = some (.invokevirtual 168) := cf134_147.2.2.2.2.2.2.2.2.1
theorem f134_165 : zf 134 165 = some (.lastore) := cf134_147.2.2.2.2.2.2.2.2.2.1
theorem f134_166 : zf 134 166 = some (.lload 11) := cf134_147.2.2.2.2.2.2.2.2.2.2.1
theorem f134_168 : zf 134 168 = some (.aload_n 0) := cf134_147.2.2.2.2.2.2.2.2.2.2.2.1
theorem f134_169 : zf 134 169 = some (.getfield 161) := cf134_147.2.2.2.2.2.2.2.2.2.2.2.2.1
theorem f134_172 : zf 134 172 = some (.ldiv) := cf134_147.2.2.2.2.2.2.2.2.2.2.2.2.2.1
theorem f134_173 : zf 134 173 = some (.ldc2_w 181) := cf134_147.2.2.2.2.2.2.2.2.2.2.2.2.2.2.1
theorem f134_176 : zf 134 176 = some (.lcmp) := cf134_147.2.2.2.2.2.2.2.2.2.2.2.2.2.2.2
theorem cf134_177 : zf 134 177 = some (.ifCond .le 5) ∧ zf 134 180 = some (.iconst 0) ∧ zf 134 181 = some (.ireturn) ∧ zf 134 182 = some (.iconst 0) ∧ zf 134 183 = some (.istore 13) ∧ zf 134 185 = some (.iload 13) ∧ zf 134 187 = some (.bipush 8) ∧ zf 134 189 = some (.if_icmp .ge 28) ∧ zf 134 192 = some (.aload_n 0) ∧ zf 134 193 = some (.getfield 44) ∧ zf 134 196 = some (.iload 13) ∧ zf 134 198 = some (.aload_n 0) ∧ zf 134 199 = some (.getfield 89) ∧ zf 134 202 = some (.iload 13) ∧ zf 134 204 = some (.laload) ∧ zf 134 205 = some (.aload_n 0) := by decide +kernel
theorem f134_177 : zf 134 177 = some (.ifCond .le 5) := cf134_177.1
theorem f134_180 : zf 134 180 = some (.iconst 0) := cf134_177.2.1
theorem f134_181 : zf 134 181 = some (.ireturn) := cf134_177.2.2.1
theorem f134_182 : zf 134 182 = some (.iconst 0) := cf134_177.2.2.2.1
theorem f134_183 : zf 134 183 = some (.istore 13) := cf134_177.2.2.2.2.1
theorem f134_185 : zf 134 185 = some (.iload 13) := cf134_177.2.2.2.2.2.1
theorem f134_187 : zf 134 187 = some (.bipush 8) := cf134_177.2.2.2.2.2.2.1
theorem f134_189 : zf 134 189 = some (.if_icmp .ge 28) := cf134_177.2.2.2.2.2.2.2.1
theorem f134_192 : zf 134 192 = some (.aload_n 0) := cf134_177.2.2.2.2.2.2.2.2.1
theorem f134_193 : zf 134 193 = some (.getfield 44) := cf134_177.2.2.2.2.2.2.2.2.2.1
theorem f134_196 : zf 134 196 = some (.iload 13) := cf134_177.2.2.2.2.2.2.2.2.2.2.1
theorem f134_198 : zf 134 198 = some (.aload_n 0) := cf134_177.2.2.2.2.2.2.2.2.2.2.2.1
theorem f134_199 : zf 134 199 = some (.getfield 89) := cf134_177.2.2.2.2.2.2.2.2.2.2.2.2.1
theorem f134_202 : zf 134 202 = some (.iload 13) := cf134_177.2.2.2.2.2.2.2.2.2.2.2.2.2.1
theorem f134_204 : zf 134 204 = some (.laload) := cf134_177.2.2.2.2.2.2.2.2.2.2.2.2.2.2.1
theorem f134_205 : zf 134 205 = some (.aload_n 0) := cf134_177.2.2.2.2.2.2.2.2.2.2.2.2.2.2.2
theorem cf134_206 : zf 134 206 = some (.getfield 161) ∧ zf 134 209 = some (.ldiv) ∧ zf 134 210 = some (.lastore) ∧ zf 134 211 = some (.iinc 13 1) ∧ zf 134 214 = some (.goto (-29)) ∧ zf 134 217 = some (.aload_n 0) ∧ zf 134 218 = some (.aload_n 0) ∧ zf 134 219 = some (.getfield 89) ∧ zf 134 222 = some (.bipush 8) ∧ zf 134 224 = some (.laload) ∧ zf 134 225 = some (.aload_n 0) ∧ zf 134 226 = some (.getfield 161) ∧ zf 134 229 = some (.ldiv) ∧ zf 134 230 = some (.putfield 172) ∧ zf 134 233 = some (.aload_n 0) ∧ zf 134 234 = some (.aload_n 0) := by decide +kernel
theorem f134_206 : zf 134 206 = some (.getfield 161) := cf134_206.1
theorem f134_209 : zf 134 209 = some (.ldiv) := cf134_206.2.1
theorem f134_210 : zf 134 210 = some (.lastore) := cf134_206.2.2.1
theorem f134_211 : zf 134 211 = some (.iinc 13 1) := cf134_206.2.2.2.1
theorem f134_214 : zf 134 214 = some (.goto (-29)) := cf134_206.2.2.2.2.1
theorem f134_217 : zf 134 217 = some (.aload_n 0) := cf134_206.2.2.2.2.2.1
theorem f134_218 : zf 134 218 = some (.aload_n 0) := cf134_206.2.2.2.2.2.2.1
theorem f134_219 : zf 134 219 = some (.getfield 89) := cf134_206.2.2.2.2.2.2.2.1
theorem f134_222 : zf 134 222 = some (.bipush 8) := cf134_206.2.2.2.2.2.2.2.2.1
theorem f134_224 : zf 134 224 = some (.laload) := cf134_206.2.2.2.2.2.2.2.2.2.1
theorem f134_225 : zf 134 225 = some (.aload_n 0) := cf134_206.2.2.2.2.2.2.2.2.2.2.1
theorem f134_226 : zf 134 226 = some (.getfield 161) := cf134_206.2.2.2.2.2.2.2.2.2.2.2.1
theorem f134_229 : zf 134 229 = some (.ldiv) := cf134_206.2.2.2.2.2.2.2.2.2.2.2.2.1
theorem f134_230 : zf 134 230 = some (.putfield 172) := cf134_206.2.2.2.2.2.2.2.2.2.2.2.2.2.1
theorem f134_233 : zf 134 233 = some (.aload_n 0) := cf134_206.2.2.2.2.2.2.2.2.2.2.2.2.2.2.1
theorem f134_234 : zf 134 234 = some (.aload_n 0) := cf134_206.2.2.2.2.2.2.2.2.2.2.2.2.2.2.2
theorem cf134_235 : zf 134 235 = some (.getfield 89) ∧ zf 134 238 = some (.bipush 9) ∧ zf 134 240 = some (.laload) ∧ zf 134 241 = some (.aload_n 0) ∧ zf 134 242 = some (.getfield 161) ∧ zf 134 245 = some (.ldiv) ∧ zf 134 246 = some (.putfield 175) ∧ zf 134 249 = some (.aload_n 0) ∧ zf 134 250 = some (.aload_n 0) ∧ zf 134 251 = some (.getfield 89) ∧ zf 134 254 = some (.bipush 10) ∧ zf 134 256 = some (.laload) ∧ zf 134 257 = some (.aload_n 0) ∧ zf 134 258 = some (.getfield 161) ∧ zf 134 261 = some (.ldiv) ∧ zf 134 262 = some (.putfield 178) := by decide +kernel
theorem f134_235 : zf 134 235 = some (.getfield 89) := cf134_235.1
theorem f134_238 : zf 134 238 = some (.bipush 9) := cf134_235.2.1
theorem f134_240 : zf 134 240 = some (.laload) := cf134_235.2.2.1
theorem f134_241 : zf 134 241 = some (.aload_n 0) := cf134_235.2.2.2.1
theorem f134_242 : zf 134 242 = some (.getfield 161) := cf134_235.2.2.2.2.1
theorem f134_245 : zf 134 245 = some (.ldiv) := cf134_235.2.2.2.2.2.1
theorem f134_246 : zf 134 246 = some (.putfield 175) := cf134_235.2.2.2.2.2.2.1
theorem f134_249 : zf 134 249 = some (.aload_n 0) := cf134_235.2.2.2.2.2.2.2.1
theorem f134_250 : zf 134 250 = some (.aload_n 0) := cf134_235.2.2.2.2.2.2.2.2.1
theorem f134_251 : zf 134 251 = some (.getfield 89) := cf134_235.2.2.2.2.2.2.2.2.2.1
theorem f134_254 : zf 134 254 = some (.bipush 10) := cf134_235.2.2.2.2.2.2.2.2.2.2.1
theorem f134_256 : zf 134 256 = some (.laload) := cf134_235.2.2.2.2.2.2.2.2.2.2.2.1
theorem f134_257 : zf 134 257 = some (.aload_n 0) := cf134_235.2.2.2.2.2.2.2.2.2.2.2.2.1
theorem f134_258 : zf 134 258 = some (.getfield 161) := cf134_235.2.2.2.2.2.2.2.2.2.2.2.2.2.1
theorem f134_261 : zf 134 261 = some (.ldiv) := cf134_235.2.2.2.2.2.2.2.2.2.2.2.2.2.2.1
theorem f134_262 : zf 134 262 = some (.putfield 178) := cf134_235.2.2.2.2.2.2.2.2.2.2.2.2.2.2.2
theorem cf134_265 : zf 134 265 = some (.aload_n 0) ∧ zf 134 266 = some (.lload 11) ∧ zf 134 268 = some (.aload_n 0) ∧ zf 134 269 = some (.getfield 161) ∧ zf 134 272 = some (.ldiv) ∧ zf 134 273 = some (.putfield 40) ∧ zf 134 276 = some (.iconst 1) ∧ zf 134 277 = some (.ireturn) := by decide +kernel
theorem f134_265 : zf 134 265 = some (.aload_n 0) := cf134_265.1
theorem f134_266 : zf 134 266 = some (.lload 11) := cf134_265.2.1
theorem f134_268 : zf 134 268 = some (.aload_n 0) := cf134_265.2.2.1
theorem f134_269 : zf 134 269 = some (.getfield 161) := cf134_265.2.2.2.1
theorem f134_272 : zf 134 272 = some (.ldiv) := cf134_265.2.2.2.2.1
theorem f134_273 : zf 134 273 = some (.putfield 40) := cf134_265.2.2.2.2.2.1
theorem f134_276 : zf 134 276 = some (.iconst 1) := cf134_265.2.2.2.2.2.2.1
theorem f134_277 : zf 134 277 = some (.ireturn) := cf134_265.2.2.2.2.2.2.2
theorem cf135_0 : zf 135 0 = some (.aload_n 0) ∧ zf 135 1 = some (.aload_n 0) ∧ zf 135 2 = some (.getfield 172) ∧ zf 135 5 = some (.aload_n 0) ∧ zf 135 6 = some (.getfield 175) ∧ zf 135 9 = some (.aload_n 0) ∧ zf 135 10 = some (.getfield 178) ∧ zf 135 13 = some (.aload_n 0) ∧ zf 135 14 = some (.getfield 40) ∧ zf 135 17 = some (.invokestatic 164) ∧ zf 135 20 = some (.invokestatic 164) ∧ zf 135 23 = some (.invokestatic 164) ∧ zf 135 26 = some (.putfield 161) ∧ zf 135 29 = some (.iconst 0) ∧ zf 135 30 = some (.istore_n 1) ∧ zf 135 31 = some (.iload_n 1) := by decide +kernel
theorem f135_0 : zf 135 0 = some (.aload_n 0) := cf135_0.1
theorem f135_1 : zf 135 1 = some (.aload_n 0) := cf135_0.2.1
theorem f135_2 : zf 135 2 = some (.getfield 172) := cf135_0.2.2.1
theorem f135_5 : zf 135 5 = some (.aload_n 0) := cf135_0.2.2.2.1
theorem f135_6 : zf 135 6 = some (.getfield 175) := cf135_0.2.2.2.2.1
theorem f135_9 : zf 135 9 = some (.aload_n 0) := cf135_0.2.2.2.2.2.1
theorem f135_10 : zf 135 10 = some (.getfield 178) := cf135_0.2.2.2.2.2.2.1
theorem f135_13 : zf 135 13 = some (.aload_n 0) := cf135_0.2.2.2.2.2.2.2.1
theorem f135_14 : zf 135 14 = some (.getfield 40) := cf135_0.2.2.2.2.2.2.2.2.1
theorem f135_17 : zf 135 17 = some (.invokestatic 164) := cf135_0.2.2.2.2.2.2.2.2.2.1
theorem f135_20 : zf 135 20 = some (.invokestatic 164) := cf135_0.2.2.2.2.2.2.2.2.2.2.1
theorem f135_23 : zf 135 23 = some (.invokestatic 164) := cf135_0.2.2.2.2.2.2.2.2.2.2.2.1
theorem f135_26 : zf 135 26 = some (.putfield 161) := cf135_0.2.2.2.2.2.2.2.2.2.2.2.2.1
theorem f135_29 : zf 135 29 = some (.iconst 0) := cf135_0.2.2.2.2.2.2.2.2.2.2.2.2.2.1
theorem f135_30 : zf 135 30 = some (.istore_n 1) := cf135_0.2.2.2.2.2.2.2.2.2.2.2.2.2.2.1
theorem f135_31 : zf 135 31 = some (.iload_n 1) := cf135_0.2.2.2.2.2.2.2.2.2.2.2.2.2.2.2
theorem cf135_32 : zf 135 32 = some (.bipush 8) ∧ zf 135 34 = some (.if_icmp .ge 26) ∧ zf 135 37 = some (.aload_n 0) ∧ zf 135 38 = some (.aload_n 0) ∧ zf 135 39 = some (.getfield 44) ∧ zf 135 42 = some (.iload_n 1) ∧ zf 135 43 = some (.laload) ∧ zf 135 44 = some (.aload_n 0) ∧ zf 135 45 = some (.getfield 161) ∧ zf 135 48 = some (.invokestatic 164) ∧ zf 135 51 = some (.putfield 161) ∧ zf 135 54 = some (.iinc 1 1) ∧ zf 135 57 = some (.goto (-26)) ∧ zf 135 60 = some (.aload_n 0) ∧ zf 135 61 = some (.dup) ∧ zf 135 62 = some (.getfield 172) := by decide +kernel
theorem f135_32 : zf 135 32 = some (.bipush 8) := cf135_32.1
theorem f135_34 : zf 135 34 = some (.if_icmp .ge 26) := cf135_32.2.1
theorem f135_37 : zf 135 37 = some (.aload_n 0) := cf135_32.2.2.1
theorem f135_38 : zf 135 38 = some (.aload_n 0) := cf135_32.2.2.2.1
theorem f135_39 : zf 135 39 = some (.getfield 44) := cf135_32.2.2.2.2.1
theorem f135_42 : zf 135 42 = some (.iload_n 1) := cf135_32.2.2.2.2.2.1
theorem f135_43 : zf 135 43 = some (.laload) := cf135_32.2.2.2.2.2.2.1
theorem f135_44 : zf 135 44 = some (.aload_n 0) := cf135_32.2.2.2.2.2.2.2.1
theorem f135_45 : zf 135 45 = some (.getfield 161) := cf135_32.2.2.2.2.2.2.2.2.1
theorem f135_48 : zf 135 48 = some (.invokestatic 164) := cf135_32.2.2.2.2.2.2.2.2.2.1
theorem f135_51 : zf 135 51 = some (.putfield 161) := cf135_32.2.2.2.2.2.2.2.2.2.2.1
theorem f135_54 : zf 135 54 = some (.iinc 1 1) := cf135_32.2.2.2.2.2.2.2.2.2.2.2.1
theorem f135_57 : zf 135 57 = some (.goto (-26)) := cf135_32.2.2.2.2.2.2.2.2.2.2.2.2.1
theorem f135_60 : zf 135 60 = some (.aload_n 0) := cf135_32.2.2.2.2.2.2.2.2.2.2.2.2.2.1
theorem f135_61 : zf 135 61 = some (.dup) := cf135_32.2.2.2.2.2.2.2.2.2.2.2.2.2.2.1
theorem f135_62 : zf 135 62 = some (.getfield 172) := cf135_32.2.2.2.2.2.2.2.2.2.2.2.2.2.2.2
theorem cf135_65 : zf 135 65 = some (.aload_n 0) ∧ zf 135 66 = some (.getfield 161) ∧ zf 135 69 = some (.ldiv) ∧ zf 135 70 = some (.putfield 172) ∧ zf 135 73 = some (.aload_n 0) ∧ zf 135 74 = some (.dup) ∧ zf 135 75 = some (.getfield 175) ∧ zf 135 78 = some (.aload_n 0) ∧ zf 135 79 = some (.getfield 161) ∧ zf 135 82 = some (.ldiv) ∧ zf 135 83 = some (.putfield 175) ∧ zf 135 86 = some (.aload_n 0) ∧ zf 135 87 = some (.dup) ∧ zf 135 88 = some (.getfield 178) ∧ zf 135 91 = some (.aload_n 0) ∧ zf 135 92 = some (.getfield 161) := by decide +kernel
theorem f135_65 : zf 135 65 = some (.aload_n 0) := cf135_65.1
theorem f135_66 : zf 135 66 = some (.getfield 161) := cf135_65.2.1
theorem f135_69 : zf 135 69 = some (.ldiv) := cf135_65.2.2.1
theorem f135_70 : zf 135 70 = some (.putfield 172) := cf135_65.2.2.2.1
theorem f135_73 : zf 135 73 = some (.aload_n 0) := cf135_65.2.2.2.2.1
theorem f135_74 : zf 135 74 = some (.dup) := cf135_65.2.2.2.2.2.1
theorem f135_75 : zf 135 75 = some (.getfield 175) := cf135_65.2.2.2.2.2.2.1
theorem f135_78 : zf 135 78 = some (.aload_n 0) := cf135_65.2.2.2.2.2.2.2.1
theorem f135_79 : zf 135 79 = some (.getfield 161) := cf135_65.2.2.2.2.2.2.2.2.1
theorem f135_82 : zf 135 82 = some (.ldiv) := cf135_65.2.2.2.2.2.2.2.2.2.1
theorem f135_83 : zf 135 83 = some (.putfield 175) := cf135_65.2.2.2.2.2.2.2.2.2.2.1
theorem f135_86 : zf 135 86 = some (.aload_n 0) := cf135_65.2.2.2.2.2.2.2.2.2.2.2.1
theorem f135_87 : zf 135 87 = some (.dup) := cf135_65.2.2.2.2.2.2.2.2.2.2.2.2.1
theorem f135_88 : zf 135 88 = some (.getfield 178) := cf135_65.2.2.2.2.2.2.2.2.2.2.2.2.2.1
theorem f135_91 : zf 135 91 = some (.aload_n 0) := cf135_65.2.2.2.2.2.2.2.2.2.2.2.2.2.2.1
theorem f135_92 : zf 135 92 = some (.getfield 161) := cf135_65.2.2.2.2.2.2.2.2.2.2.2.2.2.2.2
theorem cf135_95 : zf 135 95 = some (.ldiv) ∧ zf 135 96 = some (.putfield 178) ∧ zf 135 99 = some (.iconst 0) ∧ zf 135 100 = some (.istore_n 1) ∧ zf 135 101 = some (.iload_n 1) ∧ zf 135 102 = some (.bipush 8) ∧ zf 135 104 = some (.if_icmp .ge 22) ∧ zf 135 107 = some (.aload_n 0) ∧ zf 135 108 = some (.getfield 44) ∧ zf 135 111 = some (.iload_n 1) ∧ zf 135 112 = some (.dup2) ∧ zf 135 113 = some (.laload) ∧ zf 135 114 = some (.aload_n 0) ∧ zf 135 115 = some (.getfield 161) ∧ zf 135 118 = some (.ldiv) ∧ zf 135 119 = some (.lastore) := by decide +kernel
theorem f135_95 : zf 135 95 = some (.ldiv) := cf135_95.1
theorem f135_96 : zf 135 96 = some (.putfield 178) := cf135_95.2.1
theorem f135_99 : zf 135 99 = some (.iconst 0) := cf135_95.2.2.1
theorem f135_100 : zf 135 100 = some (.istore_n 1) := cf135_95.2.2.2.1
theorem f135_101 : zf 135 101 = some (.iload_n 1) := cf135_95.2.2.2.2.1
theorem f135_102 : zf 135 102 = some (.bipush 8) := cf135_95.2.2.2.2.2.1
theorem f135_104 : zf 135 104 = some (.if_icmp .ge 22) := cf135_95.2.2.2.2.2.2.1
theorem f135_107 : zf 135 107 = some (.aload_n 0) := cf135_95.2.2.2.2.2.2.2.1
theorem f135_108 : zf 135 108 = some (.getfield 44) := cf135_95.2.2.2.2.2.2.2.2.1
theorem f135_111 : zf 135 111 = some (.iload_n 1) := cf135_95.2.2.2.2.2.2.2.2.2.1
theorem f135_112 : zf 135 112 = some (.dup2) := cf135_95.2.2.2.2.2.2.2.2.2.2.1
theorem f135_113 : zf 135 113 = some (.laload) := cf135_95.2.2.2.2.2.2.2.2.2.2.2.1
theorem f135_114 : zf 135 114 = some (.aload_n 0) := cf135_95.2.2.2.2.2.2.2.2.2.2.2.2.1
theorem f135_115 : zf 135 115 = some (.getfield 161) := cf135_95.2.2.2.2.2.2.2.2.2.2.2.2.2.1
theorem f135_118 : zf 135 118 = some (.ldiv) := cf135_95.2.2.2.2.2.2.2.2.2.2.2.2.2.2.1
theorem f135_119 : zf 135 119 = some (.lastore) := cf135_95.2.2.2.2.2.2.2.2.2.2.2.2.2.2.2
theorem cf135_120 : zf 135 120 = some (.iinc 1 1) ∧ zf 135 123 = some (.goto (-22)) ∧ zf 135 126 = some (.aload_n 0) ∧ zf 135 127 = some (.dup) ∧ zf 135 128 = some (.getfield 40) ∧ zf 135 131 = some (.aload_n 0) ∧ zf 135 132 = some (.getfield 161) ∧ zf 135 135 = some (.ldiv) ∧ zf 135 136 = some (.putfield 40) ∧ zf 135 139 = some (.return_) := by decide +kernel
theorem f135_120 : zf 135 120 = some (.iinc 1 1) := cf135_120.1
theorem f135_123 : zf 135 123 = some (.goto (-22)) := cf135_120.2.1
theorem f135_126 : zf 135 126 = some (.aload_n 0) := cf135_120.2.2.1
theorem f135_127 : zf 135 127 = some (.dup) := cf135_120.2.2.2.1
theorem f135_128 : zf 135 128 = some (.getfield 40) := cf135_120.2.2.2.2.1
theorem f135_131 : zf 135 131 = some (.aload_n 0) := cf135_120.2.2.2.2.2.1
theorem f135_132 : zf 135 132 = some (.getfield 161) := cf135_120.2.2.2.2.2.2.1
theorem f135_135 : zf 135 135 = some (.ldiv) := cf135_120.2.2.2.2.2.2.2.1
theorem f135_136 : zf 135 136 = some (.putfield 40) := cf135_120.2.2.2.2.2.2.2.2.1
theorem f135_139 : zf 135 139 = some (.return_) := cf135_120.2.2.2.2.2.2.2.2.2
theorem cf136_0 : zf 136 0 = some (.iload_n 1) ∧ zf 136 1 = some (.istore 4) ∧ zf 136 3 = some (.lload_n 2) ∧ zf 136 4 = some (.lstore 5) ∧ zf 136 6 = some (.iload 4) ∧ zf 136 8 = some (.iconst (-1)) ∧ zf 136 9 = some (.if_icmp .eq 84) ∧ zf 136 12 = some (.lload 5) ∧ zf 136 14 = some (.lconst 0) ∧ zf 136 15 = some (.lcmp) ∧ zf 136 16 = some (.ifCond .le 77) ∧ zf 136 19 = some (.aload_n 0) ∧ zf 136 20 = some (.getfield 44) ∧ zf 136 23 = some (.iload 4) ∧ zf 136 25 = some (.dup2) ∧ zf 136 26 = some (.laload) := by decide +kernel
theorem f136_0 : zf 136 0 = some (.iload_n 1) := cf136_0.1
theorem f136_1 : zf 136 1 = some (.istore 4) := cf136_0.2.1
theorem f136_3 : zf 136 3 = some (.lload_n 2) := cf136_0.2.2.1
theorem f136_4 : zf 136 4 = some (.lstore 5) := cf136_0.2.2.2.1
theorem f136_6 : zf 136 6 = some (.iload 4) := cf136_0.2.2.2.2.1
theorem f136_8 : zf 136 8 = some (.iconst (-1)) := cf136_0.2.2.2.2.2.1
theorem f136_9 : zf 136 9 = some (.if_icmp .eq 84) := cf136_0.2.2.2.2.2.2.1
theorem f136_12 : zf 136 12 = some (.lload 5) := cf136_0.2.2.2.2.2.2.2.1
theorem f136_14 : zf 136 14 = some (.lconst 0) := cf136_0.2.2.2.2.2.2.2.2.1
theorem f136_15 : zf 136 15 = some (.lcmp) := cf136_0.2.2.2.2.2.2.2.2.2.1
theorem f136_16 : zf 136 16 = some (.ifCond .le 77) := cf136_0.2.2.2.2.2.2.2.2.2.2.1
theorem f136_19 : zf 136 19 = some (.aload_n 0) := cf136_0.2.2.2.2.2.2.2.2.2.2.2.1
theorem f136_20 : zf 136 20 = some (.getfield 44) := cf136_0.2.2.2.2.2.2.2.2.2.2.2.2.1
theorem f136_23 : zf 136 23 = some (.iload 4) := cf136_0.2.2.2.2.2.2.2.2.2.2.2.2.2.1
theorem f136_25 : zf 136 25 = some (.dup2) := cf136_0.2.2.2.2.2.2.2.2.2.2.2.2.2.2.1
theorem f136_26 : zf 136 26 = some (.laload) := cf136_0.2.2.2.2.2.2.2.2.2.2.2.2.2.2.2
theorem cf136_27 : zf 136 27 = some (.lload 5) ∧ zf 136 29 = some (.ladd) ∧ zf 136 30 = some (.lastore) ∧ zf 136 31 = some (.aload_n 0) ∧ zf 136 32 = some (.getfield 44) ∧ zf 136 35 = some (.iload 4) ∧ zf 136 37 = some (.laload) ∧ zf 136 38 = some (.aload_n 0) ∧ zf 136 39 = some (.getfield 13) ∧ zf 136 42 = some (.iload 4) ∧ zf 136 44 = some (.iaload) ∧ zf 136 45 = some (.i2l) ∧ zf 136 46 = some (.aload_n 0) ∧ zf 136 47 = some (.getfield 40) ∧ zf 136 50 = some (.lmul) ∧ zf 136 51 = some (.lsub) := by decide +kernel
theorem f136_27 : zf 136 27 = some (.lload 5) := cf136_27.1
theorem f136_29 : zf 136 29 = some (.ladd) := cf136_27.2.1
theorem f136_30 : zf 136 30 = some (.lastore) := cf136_27.2.2.1
theorem f136_31 : zf 136 31 = some (.aload_n 0) := cf136_27.2.2.2.1
theorem f136_32 : zf 136 32 = some (.getfield 44) := cf136_27.2.2.2.2.1
theorem f136_35 : zf 136 35 = some (.iload 4) := cf136_27.2.2.2.2.2.1
theorem f136_37 : zf 136 37 = some (.laload) := cf136_27.2.2.2.2.2.2.1
theorem f136_38 : zf 136 38 = some (.aload_n 0) := cf136_27.2.2.2.2.2.2.2.1
theorem f136_39 : zf 136 39 = some (.getfield 13) := cf136_27.2.2.2.2.2.2.2.2.1
theorem f136_42 : zf 136 42 = some (.iload 4) := cf136_27.2.2.2.2.2.2.2.2.2.1
theorem f136_44 : zf 136 44 = some (.iaload) := cf136_27.2.2.2.2.2.2.2.2.2.2.1
theorem f136_45 : zf 136 45 = some (.i2l) := cf136_27.2.2.2.2.2.2.2.2.2.2.2.1
theorem f136_46 : zf 136 46 = some (.aload_n 0) := cf136_27.2.2.2.2.2.2.2.2.2.2.2.2.1
theorem f136_47 : zf 136 47 = some (.getfield 40) := cf136_27.2.2.2.2.2.2.2.2.2.2.2.2.2.1
theorem f136_50 : zf 136 50 = some (.lmul) := cf136_27.2.2.2.2.2.2.2.2.2.2.2.2.2.2.1
theorem f136_51 : zf 136 51 = some (.lsub) := cf136_27.2.2.2.2.2.2.2.2.2.2.2.2.2.2.2
theorem cf136_52 : zf 136 52 = some (.lstore 7) ∧ zf 136 54 = some (.lload 7) ∧ zf 136 56 = some (.lconst 0) ∧ zf 136 57 = some (.lcmp) ∧ zf 136 58 = some (.ifCond .le 8) ∧ zf 136 61 = some (.lload 7) ∧ zf 136 63 = some (.goto 4) ∧ zf 136 66 = some (.lconst 0) ∧ zf 136 67 = some (.lstore 5) ∧ zf 136 69 = some (.aload_n 0) ∧ zf 136 70 = some (.getfield 44) ∧ zf 136 73 = some (.iload 4) ∧ zf 136 75 = some (.dup2) ∧ zf 136 76 = some (.laload) ∧ zf 136 77 = some (.lload 5) ∧ zf 136 79 = some (.lsub) := by decide +kernel
theorem f136_52 : zf 136 52 = some (.lstore 7) := cf136_52.1
theorem f136_54 : zf 136 54 = some (.lload 7) := cf136_52.2.1
theorem f136_56 : zf 136 56 = some (.lconst 0) := cf136_52.2.2.1
theorem f136_57 : zf 136 57 = some (.lcmp) := cf136_52.2.2.2.1
theorem f136_58 : zf 136 58 = some (.ifCond .le 8) := cf136_52.2.2.2.2.1
theorem f136_61 : zf 136 61 = some (.lload 7) := cf136_52.2.2.2.2.2.1
theorem f136_63 : zf 136 63 = some (.goto 4) := cf136_52.2.2.2.2.2.2.1
theorem f136_66 : zf 136 66 = some (.lconst 0) := cf136_52.2.2.2.2.2.2.2.1
theorem f136_67 : zf 136 67 = some (.lstore 5) := cf136_52.2.2.2.2.2.2.2.2.1
theorem f136_69 : zf 136 69 = some (.aload_n 0) := cf136_52.2.2.2.2.2.2.2.2.2.1
theorem f136_70 : zf 136 70 = some (.getfield 44) := cf136_52.2.2.2.2.2.2.2.2.2.2.1
theorem f136_73 : zf 136 73 = some (.iload 4) := cf136_52.2.2.2.2.2.2.2.2.2.2.2.1
theorem f136_75 : zf 136 75 = some (.dup2) := cf136_52.2.2.2.2.2.2.2.2.2.2.2.2.1
theorem f136_76 : zf 136 76 = some (.laload) := cf136_52.2.2.2.2.2.2.2.2.2.2.2.2.2.1
theorem f136_77 : zf 136 77 = some (.lload 5) := cf136_52.2.2.2.2.2.2.2.2.2.2.2.2.2.2.1
theorem f136_79 : zf 136 79 = some (.lsub) := cf136_52.2.2.2.2.2.2.2.2.2.2.2.2.2.2.2
theorem cf136_80 : zf 136 80 = some (.lastore) ∧ zf 136 81 = some (.aload_n 0) ∧ zf 136 82 = some (.getfield 28) ∧ zf 136 85 = some (.iload 4) ∧ zf 136 87 = some (.iaload) ∧ zf 136 88 = some (.istore 4) ∧ zf 136 90 = some (.goto (-84)) ∧ zf 136 93 = some (.aload_n 0) ∧ zf 136 94 = some (.dup) ∧ zf 136 95 = some (.getfield 178) ∧ zf 136 98 = some (.lload 5) ∧ zf 136 100 = some (.ladd) ∧ zf 136 101 = some (.putfield 178) ∧ zf 136 104 = some (.return_) := by decide +kernel
theorem f136_80 : zf 136 80 = some (.lastore) := cf136_80.1
theorem f136_81 : zf 136 81 = some (.aload_n 0) := cf136_80.2.1
theorem f136_82 : zf 136 82 = some (.getfield 28) := cf136_80.2.2.1
theorem f136_85 : zf 136 85 = some (.iload 4) := cf136_80.2.2.2.1
theorem f136_87 : zf 136 87 = some (.iaload) := cf136_80.2.2.2.2.1
theorem f136_88 : zf 136 88 = some (.istore 4) := cf136_80.2.2.2.2.2.1
theorem f136_90 : zf 136 90 = some (.goto (-84)) := cf136_80.2.2.2.2.2.2.1
theorem f136_93 : zf 136 93 = some (.aload_n 0) := cf136_80.2.2.2.2.2.2.2.1
theorem f136_94 : zf 136 94 = some (.dup) := cf136_80.2.2.2.2.2.2.2.2.1
theorem f136_95 : zf 136 95 = some (.getfield 178) := cf136_80.2.2.2.2.2.2.2.2.2.1
theorem f136_98 : zf 136 98 = some (.lload 5) := cf136_80.2.2.2.2.2.2.2.2.2.2.1
theorem f136_100 : zf 136 100 = some (.ladd) := cf136_80.2.2.2.2.2.2.2.2.2.2.2.1
theorem f136_101 : zf 136 101 = some (.putfield 178) := cf136_80.2.2.2.2.2.2.2.2.2.2.2.2.1
theorem f136_104 : zf 136 104 = some (.return_) := cf136_80.2.2.2.2.2.2.2.2.2.2.2.2.2
theorem cf137_0 : zf 137 0 = some (.aload_n 0) ∧ zf 137 1 = some (.getfield 58) ∧ zf 137 4 = some (.ifCond .eq 59) ∧ zf 137 7 = some (.aload_n 0) ∧ zf 137 8 = some (.getfield 183) ∧ zf 137 11 = some (.sipush 400) ∧ zf 137 14 = some (.if_icmp .ge 49) ∧ zf 137 17 = some (.aload_n 0) ∧ zf 137 18 = some (.getfield 62) ∧ zf 137 21 = some (.aload_n 0) ∧ zf 137 22 = some (.getfield 183) ∧ zf 137 25 = some (.iload_n 1) ∧ zf 137 26 = some (.iastore) ∧ zf 137 27 = some (.aload_n 0) ∧ zf 137 28 = some (.getfield 65) ∧ zf 137 31 = some (.aload_n 0) := by decide +kernel
theorem f137_0 : zf 137 0 = some (.aload_n 0) := cf137_0.1
theorem f137_1 : zf 137 1 = some (.getfield 58) := cf137_0.2.1
theorem f137_4 : zf 137 4 = some (.ifCond .eq 59) := cf137_0.2.2.1
theorem f137_7 : zf 137 7 = some (.aload_n 0) := cf137_0.2.2.2.1
theorem f137_8 : zf 137 8 = some (.getfield 183) := cf137_0.2.2.2.2.1
theorem f137_11 : zf 137 11 = some (.sipush 400) := cf137_0.2.2.2.2.2.1
theorem f137_14 : zf 137 14 = some (.if_icmp .ge 49) := cf137_0.2.2.2.2.2.2.1
theorem f137_17 : zf 137 17 = some (.aload_n 0) := cf137_0.2.2.2.2.2.2.2.1
theorem f137_18 : zf 137 18 = some (.getfield 62) := cf137_0.2.2.2.2.2.2.2.2.1
theorem f137_21 : zf 137 21 = some (.aload_n 0) := cf137_0.2.2.2.2.2.2.2.2.2.1
theorem f137_22 : zf 137 22 = some (.getfield 183) := cf137_0.2.2.2.2.2.2.2.2.2.2.1
theorem f137_25 : zf 137 25 = some (.iload_n 1) := cf137_0.2.2.2.2.2.2.2.2.2.2.2.1
theorem f137_26 : zf 137 26 = some (.iastore) := cf137_0.2.2.2.2.2.2.2.2.2.2.2.2.1
theorem f137_27 : zf 137 27 = some (.aload_n 0) := cf137_0.2.2.2.2.2.2.2.2.2.2.2.2.2.1
theorem f137_28 : zf 137 28 = some (.getfield 65) := cf137_0.2.2.2.2.2.2.2.2.2.2.2.2.2.2.1
theorem f137_31 : zf 137 31 = some (.aload_n 0) := cf137_0.2.2.2.2.2.2.2.2.2.2.2.2.2.2.2
theorem cf137_32 : zf 137 32 = some (.getfield 183) ∧ zf 137 35 = some (.iload_n 2) ∧ zf 137 36 = some (.iastore) ∧ zf 137 37 = some (.aload_n 0) ∧ zf 137 38 = some (.getfield 68) ∧ zf 137 41 = some (.aload_n 0) ∧ zf 137 42 = some (.getfield 183) ∧ zf 137 45 = some (.aload_n 0) ∧ zf 137 46 = some (.getfield 172) ∧ zf 137 49 = some (.lastore) ∧ zf 137 50 = some (.aload_n 0) ∧ zf 137 51 = some (.getfield 71) ∧ zf 137 54 = some (.aload_n 0) ∧ zf 137 55 = some (.getfield 183) ∧ zf 137 58 = some (.aload_n 0) ∧ zf 137 59 = some (.getfield 40) := by decide +kernel
theorem f137_32 : zf 137 32 = some (.getfield 183) := cf137_32.1
theorem f137_35 : zf 137 35 = some (.iload_n 2) := cf137_32.2.1
theorem f137_36 : zf 137 36 = some (.iastore) := cf137_32.2.2.1
theorem f137_37 : zf 137 37 = some (.aload_n 0) := cf137_32.2.2.2.1
theorem f137_38 : zf 137 38 = some (.getfield 68) := cf137_32.2.2.2.2.1
theorem f137_41 : zf 137 41 = some (.aload_n 0) := cf137_32.2.2.2.2.2.1
theorem f137_42 : zf 137 42 = some (.getfield 183) := cf137_32.2.2.2.2.2.2.1
theorem f137_45 : zf 137 45 = some (.aload_n 0) := cf137_32.2.2.2.2.2.2.2.1
theorem f137_46 : zf 137 46 = some (.getfield 172) := cf137_32.2.2.2.2.2.2.2.2.1
theorem f137_49 : zf 137 49 = some (.lastore) := cf137_32.2.2.2.2.2.2.2.2.2.1
theorem f137_50 : zf 137 50 = some (.aload_n 0) := cf137_32.2.2.2.2.2.2.2.2.2.2.1
theorem f137_51 : zf 137 51 = some (.getfield 71) := cf137_32.2.2.2.2.2.2.2.2.2.2.2.1
theorem f137_54 : zf 137 54 = some (.aload_n 0) := cf137_32.2.2.2.2.2.2.2.2.2.2.2.2.1
theorem f137_55 : zf 137 55 = some (.getfield 183) := cf137_32.2.2.2.2.2.2.2.2.2.2.2.2.2.1
theorem f137_58 : zf 137 58 = some (.aload_n 0) := cf137_32.2.2.2.2.2.2.2.2.2.2.2.2.2.2.1
theorem f137_59 : zf 137 59 = some (.getfield 40) := cf137_32.2.2.2.2.2.2.2.2.2.2.2.2.2.2.2
theorem cf137_62 : zf 137 62 = some (.lastore) ∧ zf 137 63 = some (.aload_n 0) ∧ zf 137 64 = some (.dup) ∧ zf 137 65 = some (.getfield 183) ∧ zf 137 68 = some (.iconst 1) ∧ zf 137 69 = some (.iadd) ∧ zf 137 70 = some (.putfield 183) ∧ zf 137 73 = some (.aload_n 0) ∧ zf 137 74 = some (.aload_n 0) ∧ zf 137 75 = some (.getfield 186) ∧ zf 137 78 = some (.ifCond .ne 16) ∧ zf 137 81 = some (.iload_n 1) ∧ zf 137 82 = some (.iconst 4) ∧ zf 137 83 = some (.if_icmp .ne 15) ∧ zf 137 86 = some (.iload_n 2) ∧ zf 137 87 = some (.aload_n 0) := by decide +kernel
theorem f137_62 : zf 137 62 = some (.lastore) := cf137_62.1
theorem f137_63 : zf 137 63 = some (.aload_n 0) := cf137_62.2.1
theorem f137_64 : zf 137 64 = some (.dup) := cf137_62.2.2.1
theorem f137_65 : zf 137 65 = some (.getfield 183) := cf137_62.2.2.2.1
theorem f137_68 : zf 137 68 = some (.iconst 1) := cf137_62.2.2.2.2.1
theorem f137_69 : zf 137 69 = some (.iadd) := cf137_62.2.2.2.2.2.1
theorem f137_70 : zf 137 70 = some (.putfield 183) := cf137_62.2.2.2.2.2.2.1
theorem f137_73 : zf 137 73 = some (.aload_n 0) := cf137_62.2.2.2.2.2.2.2.1
theorem f137_74 : zf 137 74 = some (.aload_n 0) := cf137_62.2.2.2.2.2.2.2.2.1
theorem f137_75 : zf 137 75 = some (.getfield 186) := cf137_62.2.2.2.2.2.2.2.2.2.1
theorem f137_78 : zf 137 78 = some (.ifCond .ne 16) := cf137_62.2.2.2.2.2.2.2.2.2.2.1
theorem f137_81 : zf 137 81 = some (.iload_n 1) := cf137_62.2.2.2.2.2.2.2.2.2.2.2.1
theorem f137_82 : zf 137 82 = some (.iconst 4) := cf137_62.2.2.2.2.2.2.2.2.2.2.2.2.1
theorem f137_83 : zf 137 83 = some (.if_icmp .ne 15) := cf137_62.2.2.2.2.2.2.2.2.2.2.2.2.2.1
theorem f137_86 : zf 137 86 = some (.iload_n 2) := cf137_62.2.2.2.2.2.2.2.2.2.2.2.2.2.2.1
theorem f137_87 : zf 137 87 = some (.aload_n 0) := cf137_62.2.2.2.2.2.2.2.2.2.2.2.2.2.2.2
theorem cf137_88 : zf 137 88 = some (.getfield 92) ∧ zf 137 91 = some (.if_icmp .ne 7) ∧ zf 137 94 = some (.iconst 1) ∧ zf 137 95 = some (.goto 4) ∧ zf 137 98 = some (.iconst 0) ∧ zf 137 99 = some (.putfield 186) ∧ zf 137 102 = some (.return_) := by decide +kernel
theorem f137_88 : zf 137 88 = some (.getfield 92) := cf137_88.1
theorem f137_91 : zf 137 91 = some (.if_icmp .ne 7) := cf137_88.2.1
theorem f137_94 : zf 137 94 = some (.iconst 1) := cf137_88.2.2.1
theorem f137_95 : zf 137 95 = some (.goto 4) := cf137_88.2.2.2.1
theorem f137_98 : zf 137 98 = some (.iconst 0) := cf137_88.2.2.2.2.1
theorem f137_99 : zf 137 99 = some (.putfield 186) := cf137_88.2.2.2.2.2.1
theorem f137_102 : zf 137 102 = some (.return_) := cf137_88.2.2.2.2.2.2
theorem cf138_0 : zf 138 0 = some (.iconst 0) ∧ zf 138 1 = some (.istore_n 1) ∧ zf 138 2 = some (.iload_n 1) ∧ zf 138 3 = some (.aload_n 0) ∧ zf 138 4 = some (.getfield 114) ∧ zf 138 7 = some (.if_icmp .ge 72) ∧ zf 138 10 = some (.aload_n 0) ∧ zf 138 11 = some (.getfield 7) ∧ zf 138 14 = some (.iload_n 1) ∧ zf 138 15 = some (.iaload) ∧ zf 138 16 = some (.iconst 2) ∧ zf 138 17 = some (.if_icmp .ne 56) ∧ zf 138 20 = some (.aload_n 0) ∧ zf 138 21 = some (.getfield 44) ∧ zf 138 24 = some (.iload_n 1) ∧ zf 138 25 = some (.laload) := by decide +kernel
theorem f138_0 : zf 138 0 = some (.iconst 0) := cf138_0.1
theorem f138_1 : zf 138 1 = some (.istore_n 1) := cf138_0.2.1
theorem f138_2 : zf 138 2 = some (.iload_n 1) := cf138_0.2.2.1
theorem f138_3 : zf 138 3 = some (.aload_n 0) := cf138_0.2.2.2.1
theorem f138_4 : zf 138 4 = some (.getfield 114) := cf138_0.2.2.2.2.1
theorem f138_7 : zf 138 7 = some (.if_icmp .ge 72) := cf138_0.2.2.2.2.2.1
theorem f138_10 : zf 138 10 = some (.aload_n 0) := cf138_0.2.2.2.2.2.2.1
theorem f138_11 : zf 138 11 = some (.getfield 7) := cf138_0.2.2.2.2.2.2.2.1
theorem f138_14 : zf 138 14 = some (.iload_n 1) := cf138_0.2.2.2.2.2.2.2.2.1
theorem f138_15 : zf 138 15 = some (.iaload) := cf138_0.2.2.2.2.2.2.2.2.2.1
theorem f138_16 : zf 138 16 = some (.iconst 2) := cf138_0.2.2.2.2.2.2.2.2.2.2.1
theorem f138_17 : zf 138 17 = some (.if_icmp .ne 56) := cf138_0.2.2.2.2.2.2.2.2.2.2.2.1
theorem f138_20 : zf 138 20 = some (.aload_n 0) := cf138_0.2.2.2.2.2.2.2.2.2.2.2.2.1
theorem f138_21 : zf 138 21 = some (.getfield 44) := cf138_0.2.2.2.2.2.2.2.2.2.2.2.2.2.1
theorem f138_24 : zf 138 24 = some (.iload_n 1) := cf138_0.2.2.2.2.2.2.2.2.2.2.2.2.2.2.1
theorem f138_25 : zf 138 25 = some (.laload) := cf138_0.2.2.2.2.2.2.2.2.2.2.2.2.2.2.2
theorem cf138_26 : zf 138 26 = some (.aload_n 0) ∧ zf 138 27 = some (.getfield 13) ∧ zf 138 30 = some (.iload_n 1) ∧ zf 138 31 = some (.iaload) ∧ zf 138 32 = some (.i2l) ∧ zf 138 33 = some (.aload_n 0) ∧ zf 138 34 = some (.getfield 40) ∧ zf 138 37 = some (.lmul) ∧ zf 138 38 = some (.lcmp) ∧ zf 138 39 = some (.ifCond .ne 34) ∧ zf 138 42 = some (.aload_n 0) ∧ zf 138 43 = some (.getfield 44) ∧ zf 138 46 = some (.iload_n 1) ∧ zf 138 47 = some (.laload) ∧ zf 138 48 = some (.lstore_n 2) ∧ zf 138 49 = some (.aload_n 0) := by decide +kernel
theorem f138_26 : zf 138 26 = some (.aload_n 0) := cf138_26.1
theorem f138_27 : zf 138 27 = some (.getfield 13) := cf138_26.2.1
theorem f138_30 : zf 138 30 = some (.iload_n 1) := cf138_26.2.2.1
theorem f138_31 : zf 138 31 = some (.iaload) := cf138_26.2.2.2.1
theorem f138_32 : zf 138 32 = some (.i2l) := cf138_26.2.2.2.2.1
theorem f138_33 : zf 138 33 = some (.aload_n 0) := cf138_26.2.2.2.2.2.1
theorem f138_34 : zf 138 34 = some (.getfield 40) := cf138_26.2.2.2.2.2.2.1
theorem f138_37 : zf 138 37 = some (.lmul) := cf138_26.2.2.2.2.2.2.2.1
theorem f138_38 : zf 138 38 = some (.lcmp) := cf138_26.2.2.2.2.2.2.2.2.1
theorem f138_39 : zf 138 39 = some (.ifCond .ne 34) := cf138_26.2.2.2.2.2.2.2.2.2.1
theorem f138_42 : zf 138 42 = some (.aload_n 0) := cf138_26.2.2.2.2.2.2.2.2.2.2.1
theorem f138_43 : zf 138 43 = some (.getfield 44) := cf138_26.2.2.2.2.2.2.2.2.2.2.2.1
theorem f138_46 : zf 138 46 = some (.iload_n 1) := cf138_26.2.2.2.2.2.2.2.2.2.2.2.2.1
theorem f138_47 : zf 138 47 = some (.laload) := cf138_26.2.2.2.2.2.2.2.2.2.2.2.2.2.1
theorem f138_48 : zf 138 48 = some (.lstore_n 2) := cf138_26.2.2.2.2.2.2.2.2.2.2.2.2.2.2.1
theorem f138_49 : zf 138 49 = some (.aload_n 0) := cf138_26.2.2.2.2.2.2.2.2.2.2.2.2.2.2.2
theorem cf138_50 : zf 138 50 = some (.getfield 44) ∧ zf 138 53 = some (.iload_n 1) ∧ zf 138 54 = some (.lconst 0) ∧ zf 138 55 = some (.lastore) ∧ zf 138 56 = some (.aload_n 0) ∧ zf 138 57 = some (.iconst 1) ∧ zf 138 58 = some (.iload_n 1) ∧ zf 138 59 = some (.invokevirtual 189) ∧ zf 138 62 = some (.aload_n 0) ∧ zf 138 63 = some (.aload_n 0) ∧ zf 138 64 = some (.getfield 25) ∧ zf 138 67 = some (.iload_n 1) ∧ zf 138 68 = some (.iaload) ∧ zf 138 69 = some (.lload_n 2) ∧ zf 138 70 = some (.invokevirtual 192) ∧ zf 138 73 = some (.iinc 1 1) := by decide +kernel
theorem f138_50 : zf 138 50 = some (.getfield 44) := cf138_50.1
theorem f138_53 : zf 138 53 = some (.iload_n 1) := cf138_50.2.1
theorem f138_54 : zf 138 54 = some (.lconst 0) := cf138_50.2.2.1
theorem f138_55 : zf 138 55 = some (.lastore) := cf138_50.2.2.2.1
theorem f138_56 : zf 138 56 = some (.aload_n 0) := cf138_50.2.2.2.2.1
theorem f138_57 : zf 138 57 = some (.iconst 1) := cf138_50.2.2.2.2.2.1
theorem f138_58 : zf 138 58 = some (.iload_n 1) := cf138_50.2.2.2.2.2.2.1
theorem f138_59 : zf 138 59 = some (.invokevirtual 189) := cf138_50.2.2.2.2.2.2.2.1
theorem f138_62 : zf 138 62 = some (.aload_n 0) := cf138_50.2.2.2.2.2.2.2.2.1
theorem f138_63 : zf 138 63 = some (.aload_n 0) := cf138_50.2.2.2.2.2.2.2.2.2.1
theorem f138_64 : zf 138 64 = some (.getfield 25) := cf138_50.2.2.2.2.2.2.2.2.2.2.1
theorem f138_67 : zf 138 67 = some (.iload_n 1) := cf138_50.2.2.2.2.2.2.2.2.2.2.2.1
theorem f138_68 : zf 138 68 = some (.iaload) := cf138_50.2.2.2.2.2.2.2.2.2.2.2.2.1
theorem f138_69 : zf 138 69 = some (.lload_n 2) := cf138_50.2.2.2.2.2.2.2.2.2.2.2.2.2.1
theorem f138_70 : zf 138 70 = some (.invokevirtual 192) := cf138_50.2.2.2.2.2.2.2.2.2.2.2.2.2.2.1
theorem f138_73 : zf 138 73 = some (.iinc 1 1) := cf138_50.2.2.2.2.2.2.2.2.2.2.2.2.2.2.2
theorem cf138_76 : zf 138 76 = some (.goto (-74)) ∧ zf 138 79 = some (.iconst 0) ∧ zf 138 80 = some (.istore_n 1) ∧ zf 138 81 = some (.iload_n 1) ∧ zf 138 82 = some (.aload_n 0) ∧ zf 138 83 = some (.getfield 114) ∧ zf 138 86 = some (.if_icmp .ge 109) ∧ zf 138 89 = some (.aload_n 0) ∧ zf 138 90 = some (.getfield 7) ∧ zf 138 93 = some (.iload_n 1) ∧ zf 138 94 = some (.iaload) ∧ zf 138 95 = some (.iconst 1) ∧ zf 138 96 = some (.if_icmp .ne 50) ∧ zf 138 99 = some (.aload_n 0) ∧ zf 138 100 = some (.getfield 52) ∧ zf 138 103 = some (.iload_n 1) := by decide +kernel
theorem f138_76 : zf 138 76 = some (.goto (-74)) := cf138_76.1
theorem f138_79 : zf 138 79 = some (.iconst 0) := cf138_76.2.1
theorem f138_80 : zf 138 80 = some (.istore_n 1) := cf138_76.2.2.1
theorem f138_81 : zf 138 81 = some (.iload_n 1) := cf138_76.2.2.2.1
theorem f138_82 : zf 138 82 = some (.aload_n 0) := cf138_76.2.2.2.2.1
theorem f138_83 : zf 138 83 = some (.getfield 114) := cf138_76.2.2.2.2.2.1
theorem f138_86 : zf 138 86 = some (.if_icmp .ge 109) := cf138_76.2.2.2.2.2.2.1
theorem f138_89 : zf 138 89 = some (.aload_n 0) := cf138_76.2.2.2.2.2.2.2.1
theorem f138_90 : zf 138 90 = some (.getfield 7) := cf138_76.2.2.2.2.2.2.2.2.1
theorem f138_93 : zf 138 93 = some (.iload_n 1) := cf138_76.2.2.2.2.2.2.2.2.2.1
theorem f138_94 : zf 138 94 = some (.iaload) := cf138_76.2.2.2.2.2.2.2.2.2.2.1
theorem f138_95 : zf 138 95 = some (.iconst 1) := cf138_76.2.2.2.2.2.2.2.2.2.2.2.1
theorem f138_96 : zf 138 96 = some (.if_icmp .ne 50) := cf138_76.2.2.2.2.2.2.2.2.2.2.2.2.1
theorem f138_99 : zf 138 99 = some (.aload_n 0) := cf138_76.2.2.2.2.2.2.2.2.2.2.2.2.2.1
theorem f138_100 : zf 138 100 = some (.getfield 52) := cf138_76.2.2.2.2.2.2.2.2.2.2.2.2.2.2.1
theorem f138_103 : zf 138 103 = some (.iload_n 1) := cf138_76.2.2.2.2.2.2.2.2.2.2.2.2.2.2.2
theorem cf138_104 : zf 138 104 = some (.baload) ∧ zf 138 105 = some (.ifCond .ne 41) ∧ zf 138 108 = some (.aload_n 0) ∧ zf 138 109 = some (.getfield 44) ∧ zf 138 112 = some (.iload_n 1) ∧ zf 138 113 = some (.laload) ∧ zf 138 114 = some (.aload_n 0) ∧ zf 138 115 = some (.getfield 16) ∧ zf 138 118 = some (.iload_n 1) ∧ zf 138 119 = some (.iaload) ∧ zf 138 120 = some (.i2l) ∧ zf 138 121 = some (.aload_n 0) ∧ zf 138 122 = some (.getfield 40) ∧ zf 138 125 = some (.lmul) ∧ zf 138 126 = some (.lcmp) ∧ zf 138 127 = some (.ifCond .lt 19) := by decide +kernel
theorem f138_104 : zf 138 104 = some (.baload) := cf138_104.1
theorem f138_105 : zf 138 105 = some (.ifCond .ne 41) := cf138_104.2.1
theorem f138_108 : zf 138 108 = some (.aload_n 0) := cf138_104.2.2.1
theorem f138_109 : zf 138 109 = some (.getfield 44) := cf138_104.2.2.2.1
theorem f138_112 : zf 138 112 = some (.iload_n 1) := cf138_104.2.2.2.2.1
theorem f138_113 : zf 138 113 = some (.laload) := cf138_104.2.2.2.2.2.1
theorem f138_114 : zf 138 114 = some (.aload_n 0) := cf138_104.2.2.2.2.2.2.1
theorem f138_115 : zf 138 115 = some (.getfield 16) := cf138_104.2.2.2.2.2.2.2.1
theorem f138_118 : zf 138 118 = some (.iload_n 1) := cf138_104.2.2.2.2.2.2.2.2.1
theorem f138_119 : zf 138 119 = some (.iaload) := cf138_104.2.2.2.2.2.2.2.2.2.1
theorem f138_120 : zf 138 120 = some (.i2l) := cf138_104.2.2.2.2.2.2.2.2.2.2.1
theorem f138_121 : zf 138 121 = some (.aload_n 0) := cf138_104.2.2.2.2.2.2.2.2.2.2.2.1
theorem f138_122 : zf 138 122 = some (.getfield 40) := cf138_104.2.2.2.2.2.2.2.2.2.2.2.2.1
theorem f138_125 : zf 138 125 = some (.lmul) := cf138_104.2.2.2.2.2.2.2.2.2.2.2.2.2.1
theorem f138_126 : zf 138 126 = some (.lcmp) := cf138_104.2.2.2.2.2.2.2.2.2.2.2.2.2.2.1
theorem f138_127 : zf 138 127 = some (.ifCond .lt 19) := cf138_104.2.2.2.2.2.2.2.2.2.2.2.2.2.2.2
theorem cf138_130 : zf 138 130 = some (.aload_n 0) ∧ zf 138 131 = some (.getfield 52) ∧ zf 138 134 = some (.iload_n 1) ∧ zf 138 135 = some (.iconst 1) ∧ zf 138 136 = some (.bastore) ∧ zf 138 137 = some (.aload_n 0) ∧ zf 138 138 = some (.iconst 2) ∧ zf 138 139 = some (.iload_n 1) ∧ zf 138 140 = some (.invokevirtual 189) ∧ zf 138 143 = some (.goto 46) ∧ zf 138 146 = some (.aload_n 0) ∧ zf 138 147 = some (.getfield 7) ∧ zf 138 150 = some (.iload_n 1) ∧ zf 138 151 = some (.iaload) ∧ zf 138 152 = some (.iconst 1) ∧ zf 138 153 = some (.if_icmp .ne 36) := by decide +kernel
theorem f138_130 : zf 138 130 = some (.aload_n 0) := cf138_130.1
theorem f138_131 : zf 138 131 = some (.getfield 52) := cf138_130.2.1
theorem f138_134 : zf 138 134 = some (.iload_n 1) := cf138_130.2.2.1
theorem f138_135 : zf 138 135 = some (.iconst 1) := cf138_130.2.2.2.1
theorem f138_136 : zf 138 136 = some (.bastore) := cf138_130.2.2.2.2.1
theorem f138_137 : zf 138 137 = some (.aload_n 0) := cf138_130.2.2.2.2.2.1
theorem f138_138 : zf 138 138 = some (.iconst 2) := cf138_130.2.2.2.2.2.2.1
theorem f138_139 : zf 138 139 = some (.iload_n 1) := cf138_130.2.2.2.2.2.2.2.1
theorem f138_140 : zf 138 140 = some (.invokevirtual 189) := cf138_130.2.2.2.2.2.2.2.2.1
theorem f138_143 : zf 138 143 = some (.goto 46) := cf138_130.2.2.2.2.2.2.2.2.2.1
theorem f138_146 : zf 138 146 = some (.aload_n 0) := cf138_130.2.2.2.2.2.2.2.2.2.2.1
theorem f138_147 : zf 138 147 = some (.getfield 7) := cf138_130.2.2.2.2.2.2.2.2.2.2.2.1
theorem f138_150 : zf 138 150 = some (.iload_n 1) := cf138_130.2.2.2.2.2.2.2.2.2.2.2.2.1
theorem f138_151 : zf 138 151 = some (.iaload) := cf138_130.2.2.2.2.2.2.2.2.2.2.2.2.2.1
theorem f138_152 : zf 138 152 = some (.iconst 1) := cf138_130.2.2.2.2.2.2.2.2.2.2.2.2.2.2.1
theorem f138_153 : zf 138 153 = some (.if_icmp .ne 36) := cf138_130.2.2.2.2.2.2.2.2.2.2.2.2.2.2.2
theorem cf138_156 : zf 138 156 = some (.aload_n 0) ∧ zf 138 157 = some (.getfield 52) ∧ zf 138 160 = some (.iload_n 1) ∧ zf 138 161 = some (.baload) ∧ zf 138 162 = some (.ifCond .eq 27) ∧ zf 138 165 = some (.aload_n 0) ∧ zf 138 166 = some (.getfield 44) ∧ zf 138 169 = some (.iload_n 1) ∧ zf 138 170 = some (.laload) ∧ zf 138 171 = some (.lconst 0) ∧ zf 138 172 = some (.lcmp) ∧ zf 138 173 = some (.ifCond .ne 16) ∧ zf 138 176 = some (.aload_n 0) ∧ zf 138 177 = some (.getfield 52) ∧ zf 138 180 = some (.iload_n 1) ∧ zf 138 181 = some (.iconst 0) := by decide +kernel
theorem f138_156 : zf 138 156 = some (.aload_n 0) := cf138_156.1
theorem f138_157 : zf 138 157 = some (.getfield 52) := cf138_156.2.1
theorem f138_160 : zf 138 160 = some (.iload_n 1) := cf138_156.2.2.1
theorem f138_161 : zf 138 161 = some (.baload) := cf138_156.2.2.2.1
theorem f138_162 : zf 138 162 = some (.ifCond .eq 27) := cf138_156.2.2.2.2.1
theorem f138_165 : zf 138 165 = some (.aload_n 0) := cf138_156.2.2.2.2.2.1
theorem f138_166 : zf 138 166 = some (.getfield 44) := cf138_156.2.2.2.2.2.2.1
theorem f138_169 : zf 138 169 = some (.iload_n 1) := cf138_156.2.2.2.2.2.2.2.1
theorem f138_170 : zf 138 170 = some (.laload) := cf138_156.2.2.2.2.2.2.2.2.1
theorem f138_171 : zf 138 171 = some (.lconst 0) := cf138_156.2.2.2.2.2.2.2.2.2.1
theorem f138_172 : zf 138 172 = some (.lcmp) := cf138_156.2.2.2.2.2.2.2.2.2.2.1
theorem f138_173 : zf 138 173 = some (.ifCond .ne 16) := cf138_156.2.2.2.2.2.2.2.2.2.2.2.1
theorem f138_176 : zf 138 176 = some (.aload_n 0) := cf138_156.2.2.2.2.2.2.2.2.2.2.2.2.1
theorem f138_177 : zf 138 177 = some (.getfield 52) := cf138_156.2.2.2.2.2.2.2.2.2.2.2.2.2.1
theorem f138_180 : zf 138 180 = some (.iload_n 1) := cf138_156.2.2.2.2.2.2.2.2.2.2.2.2.2.2.1
theorem f138_181 : zf 138 181 = some (.iconst 0) := cf138_156.2.2.2.2.2.2.2.2.2.2.2.2.2.2.2
theorem cf138_182 : zf 138 182 = some (.bastore) ∧ zf 138 183 = some (.aload_n 0) ∧ zf 138 184 = some (.iconst 3) ∧ zf 138 185 = some (.iload_n 1) ∧ zf 138 186 = some (.invokevirtual 189) ∧ zf 138 189 = some (.iinc 1 1) ∧ zf 138 192 = some (.goto (-111)) ∧ zf 138 195 = some (.iconst 0) ∧ zf 138 196 = some (.istore_n 1) ∧ zf 138 197 = some (.iload_n 1) ∧ zf 138 198 = some (.aload_n 0) ∧ zf 138 199 = some (.getfield 114) ∧ zf 138 202 = some (.if_icmp .ge 32) ∧ zf 138 205 = some (.aload_n 0) ∧ zf 138 206 = some (.iload_n 1) ∧ zf 138 207 = some (.invokevirtual 158) := by decide +kernel
theorem f138_182 : zf 138 182 = some (.bastore) := cf138_182.1
theorem f138_183 : zf 138 183 = some (.aload_n 0) := cf138_182.2.1
theorem f138_184 : zf 138 184 = some (.iconst 3) := cf138_182.2.2.1
theorem f138_185 : zf 138 185 = some (.iload_n 1) := cf138_182.2.2.2.1
theorem f138_186 : zf 138 186 = some (.invokevirtual 189) := cf138_182.2.2.2.2.1
theorem f138_189 : zf 138 189 = some (.iinc 1 1) := cf138_182.2.2.2.2.2.1
theorem f138_192 : zf 138 192 = some (.goto (-111)) := cf138_182.2.2.2.2.2.2.1
theorem f138_195 : zf 138 195 = some (.iconst 0) := cf138_182.2.2.2.2.2.2.2.1
theorem f138_196 : zf 138 196 = some (.istore_n 1) := cf138_182.2.2.2.2.2.2.2.2.1
theorem f138_197 : zf 138 197 = some (.iload_n 1) := cf138_182.2.2.2.2.2.2.2.2.2.1
theorem f138_198 : zf 138 198 = some (.aload_n 0) := cf138_182.2.2.2.2.2.2.2.2.2.2.1
theorem f138_199 : zf 138 199 = some (.getfield 114) := cf138_182.2.2.2.2.2.2.2.2.2.2.2.1
theorem f138_202 : zf 138 202 = some (.if_icmp .ge 32) := cf138_182.2.2.2.2.2.2.2.2.2.2.2.2.1
theorem f138_205 : zf 138 205 = some (.aload_n 0) := cf138_182.2.2.2.2.2.2.2.2.2.2.2.2.2.1
theorem f138_206 : zf 138 206 = some (.iload_n 1) := cf138_182.2.2.2.2.2.2.2.2.2.2.2.2.2.2.1
theorem f138_207 : zf 138 207 = some (.invokevirtual 158) := cf138_182.2.2.2.2.2.2.2.2.2.2.2.2.2.2.2
theorem cf138_210 : zf 138 210 = some (.ifCond .eq 18) ∧ zf 138 213 = some (.aload_n 0) ∧ zf 138 214 = some (.getfield 22) ∧ zf 138 217 = some (.iload_n 1) ∧ zf 138 218 = some (.iaload) ∧ zf 138 219 = some (.iconst (-1)) ∧ zf 138 220 = some (.if_icmp .eq 8) ∧ zf 138 223 = some (.aload_n 0) ∧ zf 138 224 = some (.iload_n 1) ∧ zf 138 225 = some (.invokevirtual 196) ∧ zf 138 228 = some (.iinc 1 1) ∧ zf 138 231 = some (.goto (-34)) ∧ zf 138 234 = some (.aload_n 0) ∧ zf 138 235 = some (.invokevirtual 199) ∧ zf 138 238 = some (.return_) := by decide +kernel
theorem f138_210 : zf 138 210 = some (.ifCond .eq 18) := cf138_210.1
theorem f138_213 : zf 138 213 = some (.aload_n 0) := cf138_210.2.1
theorem f138_214 : zf 138 214 = some (.getfield 22) := cf138_210.2.2.1
theorem f138_217 : zf 138 217 = some (.iload_n 1) := cf138_210.2.2.2.1
theorem f138_218 : zf 138 218 = some (.iaload) := cf138_210.2.2.2.2.1
theorem f138_219 : zf 138 219 = some (.iconst (-1)) := cf138_210.2.2.2.2.2.1
theorem f138_220 : zf 138 220 = some (.if_icmp .eq 8) := cf138_210.2.2.2.2.2.2.1
theorem f138_223 : zf 138 223 = some (.aload_n 0) := cf138_210.2.2.2.2.2.2.2.1
theorem f138_224 : zf 138 224 = some (.iload_n 1) := cf138_210.2.2.2.2.2.2.2.2.1
theorem f138_225 : zf 138 225 = some (.invokevirtual 196) := cf138_210.2.2.2.2.2.2.2.2.2.1
theorem f138_228 : zf 138 228 = some (.iinc 1 1) := cf138_210.2.2.2.2.2.2.2.2.2.2.1
theorem f138_231 : zf 138 231 = some (.goto (-34)) := cf138_210.2.2.2.2.2.2.2.2.2.2.2.1
theorem f138_234 : zf 138 234 = some (.aload_n 0) := cf138_210.2.2.2.2.2.2.2.2.2.2.2.2.1
theorem f138_235 : zf 138 235 = some (.invokevirtual 199) := cf138_210.2.2.2.2.2.2.2.2.2.2.2.2.2.1
theorem f138_238 : zf 138 238 = some (.return_) := cf138_210.2.2.2.2.2.2.2.2.2.2.2.2.2.2
theorem cf139_0 : zf 139 0 = some (.aload_n 0) ∧ zf 139 1 = some (.getfield 48) ∧ zf 139 4 = some (.aload_n 0) ∧ zf 139 5 = some (.getfield 22) ∧ zf 139 8 = some (.iload_n 1) ∧ zf 139 9 = some (.iaload) ∧ zf 139 10 = some (.baload) ∧ zf 139 11 = some (.ifCond .eq 70) ∧ zf 139 14 = some (.aload_n 0) ∧ zf 139 15 = some (.getfield 44) ∧ zf 139 18 = some (.iload_n 1) ∧ zf 139 19 = some (.laload) ∧ zf 139 20 = some (.aload_n 0) ∧ zf 139 21 = some (.getfield 16) ∧ zf 139 24 = some (.iload_n 1) ∧ zf 139 25 = some (.iaload) := by decide +kernel
theorem f139_0 : zf 139 0 = some (.aload_n 0) := cf139_0.1
theorem f139_1 : zf 139 1 = some (.getfield 48) := cf139_0.2.1
theorem f139_4 : zf 139 4 = some (.aload_n 0) := cf139_0.2.2.1
theorem f139_5 : zf 139 5 = some (.getfield 22) := cf139_0.2.2.2.1
theorem f139_8 : zf 139 8 = some (.iload_n 1) := cf139_0.2.2.2.2.1
theorem f139_9 : zf 139 9 = some (.iaload) := cf139_0.2.2.2.2.2.1
theorem f139_10 : zf 139 10 = some (.baload) := cf139_0.2.2.2.2.2.2.1
theorem f139_11 : zf 139 11 = some (.ifCond .eq 70) := cf139_0.2.2.2.2.2.2.2.1
theorem f139_14 : zf 139 14 = some (.aload_n 0) := cf139_0.2.2.2.2.2.2.2.2.1
theorem f139_15 : zf 139 15 = some (.getfield 44) := cf139_0.2.2.2.2.2.2.2.2.2.1
theorem f139_18 : zf 139 18 = some (.iload_n 1) := cf139_0.2.2.2.2.2.2.2.2.2.2.1
theorem f139_19 : zf 139 19 = some (.laload) := cf139_0.2.2.2.2.2.2.2.2.2.2.2.1
theorem f139_20 : zf 139 20 = some (.aload_n 0) := cf139_0.2.2.2.2.2.2.2.2.2.2.2.2.1
theorem f139_21 : zf 139 21 = some (.getfield 16) := cf139_0.2.2.2.2.2.2.2.2.2.2.2.2.2.1
theorem f139_24 : zf 139 24 = some (.iload_n 1) := cf139_0.2.2.2.2.2.2.2.2.2.2.2.2.2.2.1
theorem f139_25 : zf 139 25 = some (.iaload) := cf139_0.2.2.2.2.2.2.2.2.2.2.2.2.2.2.2
theorem cf139_26 : zf 139 26 = some (.i2l) ∧ zf 139 27 = some (.aload_n 0) ∧ zf 139 28 = some (.getfield 40) ∧ zf 139 31 = some (.lmul) ∧ zf 139 32 = some (.lcmp) ∧ zf 139 33 = some (.ifCond .lt 48) ∧ zf 139 36 = some (.aload_n 0) ∧ zf 139 37 = some (.getfield 48) ∧ zf 139 40 = some (.aload_n 0) ∧ zf 139 41 = some (.getfield 22) ∧ zf 139 44 = some (.iload_n 1) ∧ zf 139 45 = some (.iaload) ∧ zf 139 46 = some (.iconst 0) ∧ zf 139 47 = some (.bastore) ∧ zf 139 48 = some (.aload_n 0) ∧ zf 139 49 = some (.getfield 55) := by decide +kernel
theorem f139_26 : zf 139 26 = some (.i2l) := cf139_26.1
theorem f139_27 : zf 139 27 = some (.aload_n 0) := cf139_26.2.1
theorem f139_28 : zf 139 28 = some (.getfield 40) := cf139_26.2.2.1
theorem f139_31 : zf 139 31 = some (.lmul) := cf139_26.2.2.2.1
theorem f139_32 : zf 139 32 = some (.lcmp) := cf139_26.2.2.2.2.1
theorem f139_33 : zf 139 33 = some (.ifCond .lt 48) := cf139_26.2.2.2.2.2.1
theorem f139_36 : zf 139 36 = some (.aload_n 0) := cf139_26.2.2.2.2.2.2.1
theorem f139_37 : zf 139 37 = some (.getfield 48) := cf139_26.2.2.2.2.2.2.2.1
theorem f139_40 : zf 139 40 = some (.aload_n 0) := cf139_26.2.2.2.2.2.2.2.2.1
theorem f139_41 : zf 139 41 = some (.getfield 22) := cf139_26.2.2.2.2.2.2.2.2.2.1
theorem f139_44 : zf 139 44 = some (.iload_n 1) := cf139_26.2.2.2.2.2.2.2.2.2.2.1
theorem f139_45 : zf 139 45 = some (.iaload) := cf139_26.2.2.2.2.2.2.2.2.2.2.2.1
theorem f139_46 : zf 139 46 = some (.iconst 0) := cf139_26.2.2.2.2.2.2.2.2.2.2.2.2.1
theorem f139_47 : zf 139 47 = some (.bastore) := cf139_26.2.2.2.2.2.2.2.2.2.2.2.2.2.1
theorem f139_48 : zf 139 48 = some (.aload_n 0) := cf139_26.2.2.2.2.2.2.2.2.2.2.2.2.2.2.1
theorem f139_49 : zf 139 49 = some (.getfield 55) := cf139_26.2.2.2.2.2.2.2.2.2.2.2.2.2.2.2
theorem cf139_52 : zf 139 52 = some (.iload_n 1) ∧ zf 139 53 = some (.dup2) ∧ zf 139 54 = some (.iaload) ∧ zf 139 55 = some (.aload_n 0) ∧ zf 139 56 = some (.getfield 7) ∧ zf 139 59 = some (.iload_n 1) ∧ zf 139 60 = some (.iaload) ∧ zf 139 61 = some (.iconst 4) ∧ zf 139 62 = some (.if_icmp .ne 7) ∧ zf 139 65 = some (.iconst 1) ∧ zf 139 66 = some (.goto 4) ∧ zf 139 69 = some (.iconst 0) ∧ zf 139 70 = some (.iadd) ∧ zf 139 71 = some (.iastore) ∧ zf 139 72 = some (.aload_n 0) ∧ zf 139 73 = some (.iconst 4) := by decide +kernel
theorem f139_52 : zf 139 52 = some (.iload_n 1) := cf139_52.1
theorem f139_53 : zf 139 53 = some (.dup2) := cf139_52.2.1
theorem f139_54 : zf 139 54 = some (.iaload) := cf139_52.2.2.1
theorem f139_55 : zf 139 55 = some (.aload_n 0) := cf139_52.2.2.2.1
theorem f139_56 : zf 139 56 = some (.getfield 7) := cf139_52.2.2.2.2.1
theorem f139_59 : zf 139 59 = some (.iload_n 1) := cf139_52.2.2.2.2.2.1
theorem f139_60 : zf 139 60 = some (.iaload) := cf139_52.2.2.2.2.2.2.1
theorem f139_61 : zf 139 61 = some (.iconst 4) := cf139_52.2.2.2.2.2.2.2.1
theorem f139_62 : zf 139 62 = some (.if_icmp .ne 7) := cf139_52.2.2.2.2.2.2.2.2.1
theorem f139_65 : zf 139 65 = some (.iconst 1) := cf139_52.2.2.2.2.2.2.2.2.2.1
theorem f139_66 : zf 139 66 = some (.goto 4) := cf139_52.2.2.2.2.2.2.2.2.2.2.1
theorem f139_69 : zf 139 69 = some (.iconst 0) := cf139_52.2.2.2.2.2.2.2.2.2.2.2.1
theorem f139_70 : zf 139 70 = some (.iadd) := cf139_52.2.2.2.2.2.2.2.2.2.2.2.2.1
theorem f139_71 : zf 139 71 = some (.iastore) := cf139_52.2.2.2.2.2.2.2.2.2.2.2.2.2.1
theorem f139_72 : zf 139 72 = some (.aload_n 0) := cf139_52.2.2.2.2.2.2.2.2.2.2.2.2.2.2.1
theorem f139_73 : zf 139 73 = some (.iconst 4) := cf139_52.2.2.2.2.2.2.2.2.2.2.2.2.2.2.2
theorem cf139_74 : zf 139 74 = some (.iload_n 1) ∧ zf 139 75 = some (.invokevirtual 189) ∧ zf 139 78 = some (.goto 57) ∧ zf 139 81 = some (.aload_n 0) ∧ zf 139 82 = some (.getfield 48) ∧ zf 139 85 = some (.aload_n 0) ∧ zf 139 86 = some (.getfield 22) ∧ zf 139 89 = some (.iload_n 1) ∧ zf 139 90 = some (.iaload) ∧ zf 139 91 = some (.baload) ∧ zf 139 92 = some (.ifCond .ne 43) ∧ zf 139 95 = some (.aload_n 0) ∧ zf 139 96 = some (.getfield 44) ∧ zf 139 99 = some (.iload_n 1) ∧ zf 139 100 = some (.laload) ∧ zf 139 101 = some (.aload_n 0) := by decide +kernel
theorem f139_74 : zf 139 74 = some (.iload_n 1) := cf139_74.1
theorem f139_75 : zf 139 75 = some (.invokevirtual 189) := cf139_74.2.1
theorem f139_78 : zf 139 78 = some (.goto 57) := cf139_74.2.2.1
theorem f139_81 : zf 139 81 = some (.aload_n 0) := cf139_74.2.2.2.1
theorem f139_82 : zf 139 82 = some (.getfield 48) := cf139_74.2.2.2.2.1
theorem f139_85 : zf 139 85 = some (.aload_n 0) := cf139_74.2.2.2.2.2.1
theorem f139_86 : zf 139 86 = some (.getfield 22) := cf139_74.2.2.2.2.2.2.1
theorem f139_89 : zf 139 89 = some (.iload_n 1) := cf139_74.2.2.2.2.2.2.2.1
theorem f139_90 : zf 139 90 = some (.iaload) := cf139_74.2.2.2.2.2.2.2.2.1
theorem f139_91 : zf 139 91 = some (.baload) := cf139_74.2.2.2.2.2.2.2.2.2.1
theorem f139_92 : zf 139 92 = some (.ifCond .ne 43) := cf139_74.2.2.2.2.2.2.2.2.2.2.1
theorem f139_95 : zf 139 95 = some (.aload_n 0) := cf139_74.2.2.2.2.2.2.2.2.2.2.2.1
theorem f139_96 : zf 139 96 = some (.getfield 44) := cf139_74.2.2.2.2.2.2.2.2.2.2.2.2.1
theorem f139_99 : zf 139 99 = some (.iload_n 1) := cf139_74.2.2.2.2.2.2.2.2.2.2.2.2.2.1
theorem f139_100 : zf 139 100 = some (.laload) := cf139_74.2.2.2.2.2.2.2.2.2.2.2.2.2.2.1
theorem f139_101 : zf 139 101 = some (.aload_n 0) := cf139_74.2.2.2.2.2.2.2.2.2.2.2.2.2.2.2
theorem cf139_102 : zf 139 102 = some (.getfield 19) ∧ zf 139 105 = some (.iload_n 1) ∧ zf 139 106 = some (.iaload) ∧ zf 139 107 = some (.i2l) ∧ zf 139 108 = some (.aload_n 0) ∧ zf 139 109 = some (.getfield 40) ∧ zf 139 112 = some (.lmul) ∧ zf 139 113 = some (.lcmp) ∧ zf 139 114 = some (.ifCond .gt 21) ∧ zf 139 117 = some (.aload_n 0) ∧ zf 139 118 = some (.getfield 48) ∧ zf 139 121 = some (.aload_n 0) ∧ zf 139 122 = some (.getfield 22) ∧ zf 139 125 = some (.iload_n 1) ∧ zf 139 126 = some (.iaload) ∧ zf 139 127 = some (.iconst 1) := by decide +kernel
theorem f139_102 : zf 139 102 = some (.getfield 19) := cf139_102.1
theorem f139_105 : zf 139 105 = some (.iload_n 1) := cf139_102.2.1
theorem f139_106 : zf 139 106 = some (.iaload) := cf139_102.2.2.1
theorem f139_107 : zf 139 107 = some (.i2l) := cf139_102.2.2.2.1
theorem f139_108 : zf 139 108 = some (.aload_n 0) := cf139_102.2.2.2.2.1
theorem f139_109 : zf 139 109 = some (.getfield 40) := cf139_102.2.2.2.2.2.1
theorem f139_112 : zf 139 112 = some (.lmul) := cf139_102.2.2.2.2.2.2.1
theorem f139_113 : zf 139 113 = some (.lcmp) := cf139_102.2.2.2.2.2.2.2.1
theorem f139_114 : zf 139 114 = some (.ifCond .gt 21) := cf139_102.2.2.2.2.2.2.2.2.1
theorem f139_117 : zf 139 117 = some (.aload_n 0) := cf139_102.2.2.2.2.2.2.2.2.2.1
theorem f139_118 : zf 139 118 = some (.getfield 48) := cf139_102.2.2.2.2.2.2.2.2.2.2.1
theorem f139_121 : zf 139 121 = some (.aload_n 0) := cf139_102.2.2.2.2.2.2.2.2.2.2.2.1
theorem f139_122 : zf 139 122 = some (.getfield 22) := cf139_102.2.2.2.2.2.2.2.2.2.2.2.2.1
theorem f139_125 : zf 139 125 = some (.iload_n 1) := cf139_102.2.2.2.2.2.2.2.2.2.2.2.2.2.1
theorem f139_126 : zf 139 126 = some (.iaload) := cf139_102.2.2.2.2.2.2.2.2.2.2.2.2.2.2.1
theorem f139_127 : zf 139 127 = some (.iconst 1) := cf139_102.2.2.2.2.2.2.2.2.2.2.2.2.2.2.2
theorem cf139_128 : zf 139 128 = some (.bastore) ∧ zf 139 129 = some (.aload_n 0) ∧ zf 139 130 = some (.iconst 5) ∧ zf 139 131 = some (.iload_n 1) ∧ zf 139 132 = some (.invokevirtual 189) ∧ zf 139 135 = some (.return_) := by decide +kernel
theorem f139_128 : zf 139 128 = some (.bastore) := cf139_128.1
theorem f139_129 : zf 139 129 = some (.aload_n 0) := cf139_128.2.1
theorem f139_130 : zf 139 130 = some (.iconst 5) := cf139_128.2.2.1
theorem f139_131 : zf 139 131 = some (.iload_n 1) := cf139_128.2.2.2.1
theorem f139_132 : zf 139 132 = some (.invokevirtual 189) := cf139_128.2.2.2.2.1
theorem f139_135 : zf 139 135 = some (.return_) := cf139_128.2.2.2.2.2
theorem cf140_0 : zf 140 0 = some (.aload_n 0) ∧ zf 140 1 = some (.invokevirtual 202) ∧ zf 140 4 = some (.aload_n 0) ∧ zf 140 5 = some (.iload_n 1) ∧ zf 140 6 = some (.invokevirtual 205) ∧ zf 140 9 = some (.ireturn) := by decide +kernel
theorem f140_0 : zf 140 0 = some (.aload_n 0) := cf140_0.1
theorem f140_1 : zf 140 1 = some (.invokevirtual 202) := cf140_0.2.1
theorem f140_4 : zf 140 4 = some (.aload_n 0) := cf140_0.2.2.1
theorem f140_5 : zf 140 5 = some (.iload_n 1) := cf140_0.2.2.2.1
theorem f140_6 : zf 140 6 = some (.invokevirtual 205) := cf140_0.2.2.2.2.1
theorem f140_9 : zf 140 9 = some (.ireturn) := cf140_0.2.2.2.2.2
