set_option maxRecDepth 100000 in
theorem d_M_init_0 : Dc m_M_init 0 (.aload_n 0) 1 1 := ⟨by decide +kernel, rfl⟩
set_option maxRecDepth 100000 in
theorem d_M_init_1 : Dc m_M_init 1 (.invokespecial 1) 3 4 := ⟨by decide +kernel, rfl⟩
set_option maxRecDepth 100000 in
theorem d_M_init_4 : Dc m_M_init 4 (.aload_n 0) 1 5 := ⟨by decide +kernel, rfl⟩
set_option maxRecDepth 100000 in
theorem d_M_init_5 : Dc m_M_init 5 (.sipush (884)) 3 8 := ⟨by decide +kernel, rfl⟩
set_option maxRecDepth 100000 in
theorem d_M_init_8 : Dc m_M_init 8 (.newarray .int) 2 10 := ⟨by decide +kernel, rfl⟩
set_option maxRecDepth 100000 in
theorem d_M_init_10 : Dc m_M_init 10 (.putfield 7) 3 13 := ⟨by decide +kernel, rfl⟩
set_option maxRecDepth 100000 in
theorem d_M_init_13 : Dc m_M_init 13 (.aload_n 0) 1 14 := ⟨by decide +kernel, rfl⟩
set_option maxRecDepth 100000 in
theorem d_M_init_14 : Dc m_M_init 14 (.iconst 3) 1 15 := ⟨by decide +kernel, rfl⟩
set_option maxRecDepth 100000 in
theorem d_M_init_15 : Dc m_M_init 15 (.newarray .int) 2 17 := ⟨by decide +kernel, rfl⟩
set_option maxRecDepth 100000 in
theorem d_M_init_17 : Dc m_M_init 17 .dup 1 18 := ⟨by decide +kernel, rfl⟩
set_option maxRecDepth 100000 in
theorem d_M_init_18 : Dc m_M_init 18 (.iconst 0) 1 19 := ⟨by decide +kernel, rfl⟩
set_option maxRecDepth 100000 in
theorem d_M_init_19 : Dc m_M_init 19 (.bipush (10)) 2 21 := ⟨by decide +kernel, rfl⟩
set_option maxRecDepth 100000 in
theorem d_M_init_21 : Dc m_M_init 21 .iastore 1 22 := ⟨by decide +kernel, rfl⟩
set_option maxRecDepth 100000 in
theorem d_M_init_22 : Dc m_M_init 22 .dup 1 23 := ⟨by decide +kernel, rfl⟩
set_option maxRecDepth 100000 in
theorem d_M_init_23 : Dc m_M_init 23 (.iconst 1) 1 24 := ⟨by decide +kernel, rfl⟩
set_option maxRecDepth 100000 in
theorem d_M_init_24 : Dc m_M_init 24 (.bipush (40)) 2 26 := ⟨by decide +kernel, rfl⟩
set_option maxRecDepth 100000 in
theorem d_M_init_26 : Dc m_M_init 26 .iastore 1 27 := ⟨by decide +kernel, rfl⟩
set_option maxRecDepth 100000 in
theorem d_M_init_27 : Dc m_M_init 27 .dup 1 28 := ⟨by decide +kernel, rfl⟩
set_option maxRecDepth 100000 in
theorem d_M_init_28 : Dc m_M_init 28 (.iconst 2) 1 29 := ⟨by decide +kernel, rfl⟩
set_option maxRecDepth 100000 in
theorem d_M_init_29 : Dc m_M_init 29 (.bipush (30)) 2 31 := ⟨by decide +kernel, rfl⟩
set_option maxRecDepth 100000 in
theorem d_M_init_31 : Dc m_M_init 31 .iastore 1 32 := ⟨by decide +kernel, rfl⟩
set_option maxRecDepth 100000 in
theorem d_M_init_32 : Dc m_M_init 32 (.putfield 13) 3 35 := ⟨by decide +kernel, rfl⟩
set_option maxRecDepth 100000 in
theorem d_M_init_35 : Dc m_M_init 35 (.aload_n 0) 1 36 := ⟨by decide +kernel, rfl⟩
set_option maxRecDepth 100000 in
theorem d_M_init_36 : Dc m_M_init 36 (.iconst 3) 1 37 := ⟨by decide +kernel, rfl⟩
set_option maxRecDepth 100000 in
theorem d_M_init_37 : Dc m_M_init 37 (.newarray .int) 2 39 := ⟨by decide +kernel, rfl⟩
set_option maxRecDepth 100000 in
theorem d_M_init_39 : Dc m_M_init 39 .dup 1 40 := ⟨by decide +kernel, rfl⟩
set_option maxRecDepth 100000 in
theorem d_M_init_40 : Dc m_M_init 40 (.iconst 0) 1 41 := ⟨by decide +kernel, rfl⟩
set_option maxRecDepth 100000 in
theorem d_M_init_41 : Dc m_M_init 41 (.bipush (50)) 2 43 := ⟨by decide +kernel, rfl⟩
set_option maxRecDepth 100000 in
theorem d_M_init_43 : Dc m_M_init 43 .iastore 1 44 := ⟨by decide +kernel, rfl⟩
set_option maxRecDepth 100000 in
theorem d_M_init_44 : Dc m_M_init 44 .dup 1 45 := ⟨by decide +kernel, rfl⟩
set_option maxRecDepth 100000 in
theorem d_M_init_45 : Dc m_M_init 45 (.iconst 1) 1 46 := ⟨by decide +kernel, rfl⟩
set_option maxRecDepth 100000 in
theorem d_M_init_46 : Dc m_M_init 46 (.bipush (100)) 2 48 := ⟨by decide +kernel, rfl⟩
set_option maxRecDepth 100000 in
theorem d_M_init_48 : Dc m_M_init 48 .iastore 1 49 := ⟨by decide +kernel, rfl⟩
set_option maxRecDepth 100000 in
theorem d_M_init_49 : Dc m_M_init 49 .dup 1 50 := ⟨by decide +kernel, rfl⟩
set_option maxRecDepth 100000 in
theorem d_M_init_50 : Dc m_M_init 50 (.iconst 2) 1 51 := ⟨by decide +kernel, rfl⟩
set_option maxRecDepth 100000 in
theorem d_M_init_51 : Dc m_M_init 51 (.bipush (100)) 2 53 := ⟨by decide +kernel, rfl⟩
set_option maxRecDepth 100000 in
theorem d_M_init_53 : Dc m_M_init 53 .iastore 1 54 := ⟨by decide +kernel, rfl⟩
set_option maxRecDepth 100000 in
theorem d_M_init_54 : Dc m_M_init 54 (.putfield 16) 3 57 := ⟨by decide +kernel, rfl⟩
set_option maxRecDepth 100000 in
theorem d_M_init_57 : Dc m_M_init 57 (.aload_n 0) 1 58 := ⟨by decide +kernel, rfl⟩
set_option maxRecDepth 100000 in
theorem d_M_init_58 : Dc m_M_init 58 (.iconst 1) 1 59 := ⟨by decide +kernel, rfl⟩
set_option maxRecDepth 100000 in
theorem d_M_init_59 : Dc m_M_init 59 (.putfield 19) 3 62 := ⟨by decide +kernel, rfl⟩
set_option maxRecDepth 100000 in
theorem d_M_init_62 : Dc m_M_init 62 (.aload_n 0) 1 63 := ⟨by decide +kernel, rfl⟩
set_option maxRecDepth 100000 in
theorem d_M_init_63 : Dc m_M_init 63 (.bipush (108)) 2 65 := ⟨by decide +kernel, rfl⟩
set_option maxRecDepth 100000 in
theorem d_M_init_65 : Dc m_M_init 65 (.newarray .int) 2 67 := ⟨by decide +kernel, rfl⟩
set_option maxRecDepth 100000 in
theorem d_M_init_67 : Dc m_M_init 67 (.putfield 23) 3 70 := ⟨by decide +kernel, rfl⟩
set_option maxRecDepth 100000 in
theorem d_M_init_70 : Dc m_M_init 70 (.aload_n 0) 1 71 := ⟨by decide +kernel, rfl⟩
set_option maxRecDepth 100000 in
theorem d_M_init_71 : Dc m_M_init 71 (.bipush (36)) 2 73 := ⟨by decide +kernel, rfl⟩
set_option maxRecDepth 100000 in
theorem d_M_init_73 : Dc m_M_init 73 (.newarray .int) 2 75 := ⟨by decide +kernel, rfl⟩
set_option maxRecDepth 100000 in
theorem d_M_init_75 : Dc m_M_init 75 (.putfield 26) 3 78 := ⟨by decide +kernel, rfl⟩
set_option maxRecDepth 100000 in
theorem d_M_init_78 : Dc m_M_init 78 (.aload_n 0) 1 79 := ⟨by decide +kernel, rfl⟩
set_option maxRecDepth 100000 in
theorem d_M_init_79 : Dc m_M_init 79 (.sipush (200)) 3 82 := ⟨by decide +kernel, rfl⟩
set_option maxRecDepth 100000 in
theorem d_M_init_82 : Dc m_M_init 82 (.newarray .int) 2 84 := ⟨by decide +kernel, rfl⟩
set_option maxRecDepth 100000 in
theorem d_M_init_84 : Dc m_M_init 84 (.putfield 29) 3 87 := ⟨by decide +kernel, rfl⟩
set_option maxRecDepth 100000 in
theorem d_M_init_87 : Dc m_M_init 87 (.aload_n 0) 1 88 := ⟨by decide +kernel, rfl⟩
set_option maxRecDepth 100000 in
theorem d_M_init_88 : Dc m_M_init 88 (.bipush (36)) 2 90 := ⟨by decide +kernel, rfl⟩
set_option maxRecDepth 100000 in
theorem d_M_init_90 : Dc m_M_init 90 (.newarray .int) 2 92 := ⟨by decide +kernel, rfl⟩
set_option maxRecDepth 100000 in
theorem d_M_init_92 : Dc m_M_init 92 (.putfield 32) 3 95 := ⟨by decide +kernel, rfl⟩
set_option maxRecDepth 100000 in
theorem d_M_init_95 : Dc m_M_init 95 (.aload_n 0) 1 96 := ⟨by decide +kernel, rfl⟩
set_option maxRecDepth 100000 in
theorem d_M_init_96 : Dc m_M_init 96 (.bipush (36)) 2 98 := ⟨by decide +kernel, rfl⟩
set_option maxRecDepth 100000 in
theorem d_M_init_98 : Dc m_M_init 98 (.newarray .int) 2 100 := ⟨by decide +kernel, rfl⟩
set_option maxRecDepth 100000 in
theorem d_M_init_100 : Dc m_M_init 100 (.putfield 35) 3 103 := ⟨by decide +kernel, rfl⟩
set_option maxRecDepth 100000 in
theorem d_M_init_103 : Dc m_M_init 103 (.aload_n 0) 1 104 := ⟨by decide +kernel, rfl⟩
set_option maxRecDepth 100000 in
theorem d_M_init_104 : Dc m_M_init 104 (.bipush (36)) 2 106 := ⟨by decide +kernel, rfl⟩
set_option maxRecDepth 100000 in
theorem d_M_init_106 : Dc m_M_init 106 (.newarray .int) 2 108 := ⟨by decide +kernel, rfl⟩
set_option maxRecDepth 100000 in
theorem d_M_init_108 : Dc m_M_init 108 (.putfield 38) 3 111 := ⟨by decide +kernel, rfl⟩
set_option maxRecDepth 100000 in
theorem d_M_init_111 : Dc m_M_init 111 (.aload_n 0) 1 112 := ⟨by decide +kernel, rfl⟩
set_option maxRecDepth 100000 in
theorem d_M_init_112 : Dc m_M_init 112 (.bipush (36)) 2 114 := ⟨by decide +kernel, rfl⟩
set_option maxRecDepth 100000 in
theorem d_M_init_114 : Dc m_M_init 114 (.newarray .int) 2 116 := ⟨by decide +kernel, rfl⟩
set_option maxRecDepth 100000 in
theorem d_M_init_116 : Dc m_M_init 116 (.putfield 41) 3 119 := ⟨by decide +kernel, rfl⟩
set_option maxRecDepth 100000 in
theorem d_M_init_119 : Dc m_M_init 119 (.aload_n 0) 1 120 := ⟨by decide +kernel, rfl⟩
set_option maxRecDepth 100000 in
theorem d_M_init_120 : Dc m_M_init 120 (.iconst 4) 1 121 := ⟨by decide +kernel, rfl⟩
set_option maxRecDepth 100000 in
theorem d_M_init_121 : Dc m_M_init 121 (.newarray .int) 2 123 := ⟨by decide +kernel, rfl⟩
set_option maxRecDepth 100000 in
theorem d_M_init_123 : Dc m_M_init 123 .dup 1 124 := ⟨by decide +kernel, rfl⟩
set_option maxRecDepth 100000 in
theorem d_M_init_124 : Dc m_M_init 124 (.iconst 0) 1 125 := ⟨by decide +kernel, rfl⟩
set_option maxRecDepth 100000 in
theorem d_M_init_125 : Dc m_M_init 125 (.iconst (-1)) 1 126 := ⟨by decide +kernel, rfl⟩
set_option maxRecDepth 100000 in
theorem d_M_init_126 : Dc m_M_init 126 .iastore 1 127 := ⟨by decide +kernel, rfl⟩
set_option maxRecDepth 100000 in
theorem d_M_init_127 : Dc m_M_init 127 .dup 1 128 := ⟨by decide +kernel, rfl⟩
set_option maxRecDepth 100000 in
theorem d_M_init_128 : Dc m_M_init 128 (.iconst 1) 1 129 := ⟨by decide +kernel, rfl⟩
set_option maxRecDepth 100000 in
theorem d_M_init_129 : Dc m_M_init 129 (.iconst (-1)) 1 130 := ⟨by decide +kernel, rfl⟩
set_option maxRecDepth 100000 in
theorem d_M_init_130 : Dc m_M_init 130 .iastore 1 131 := ⟨by decide +kernel, rfl⟩
set_option maxRecDepth 100000 in
theorem d_M_init_131 : Dc m_M_init 131 .dup 1 132 := ⟨by decide +kernel, rfl⟩
set_option maxRecDepth 100000 in
theorem d_M_init_132 : Dc m_M_init 132 (.iconst 2) 1 133 := ⟨by decide +kernel, rfl⟩
set_option maxRecDepth 100000 in
theorem d_M_init_133 : Dc m_M_init 133 (.iconst (-1)) 1 134 := ⟨by decide +kernel, rfl⟩
set_option maxRecDepth 100000 in
theorem d_M_init_134 : Dc m_M_init 134 .iastore 1 135 := ⟨by decide +kernel, rfl⟩
set_option maxRecDepth 100000 in
theorem d_M_init_135 : Dc m_M_init 135 .dup 1 136 := ⟨by decide +kernel, rfl⟩
set_option maxRecDepth 100000 in
theorem d_M_init_136 : Dc m_M_init 136 (.iconst 3) 1 137 := ⟨by decide +kernel, rfl⟩
set_option maxRecDepth 100000 in
theorem d_M_init_137 : Dc m_M_init 137 (.iconst (-1)) 1 138 := ⟨by decide +kernel, rfl⟩
set_option maxRecDepth 100000 in
theorem d_M_init_138 : Dc m_M_init 138 .iastore 1 139 := ⟨by decide +kernel, rfl⟩
set_option maxRecDepth 100000 in
theorem d_M_init_139 : Dc m_M_init 139 (.putfield 44) 3 142 := ⟨by decide +kernel, rfl⟩
set_option maxRecDepth 100000 in
theorem d_M_init_142 : Dc m_M_init 142 (.aload_n 0) 1 143 := ⟨by decide +kernel, rfl⟩
set_option maxRecDepth 100000 in
theorem d_M_init_143 : Dc m_M_init 143 (.iconst 4) 1 144 := ⟨by decide +kernel, rfl⟩
set_option maxRecDepth 100000 in
theorem d_M_init_144 : Dc m_M_init 144 (.newarray .int) 2 146 := ⟨by decide +kernel, rfl⟩
set_option maxRecDepth 100000 in
theorem d_M_init_146 : Dc m_M_init 146 (.putfield 47) 3 149 := ⟨by decide +kernel, rfl⟩
set_option maxRecDepth 100000 in
theorem d_M_init_149 : Dc m_M_init 149 (.aload_n 0) 1 150 := ⟨by decide +kernel, rfl⟩
set_option maxRecDepth 100000 in
theorem d_M_init_150 : Dc m_M_init 150 (.sipush (160)) 3 153 := ⟨by decide +kernel, rfl⟩
set_option maxRecDepth 100000 in
theorem d_M_init_153 : Dc m_M_init 153 (.newarray .long) 2 155 := ⟨by decide +kernel, rfl⟩
set_option maxRecDepth 100000 in
theorem d_M_init_155 : Dc m_M_init 155 (.putfield 50) 3 158 := ⟨by decide +kernel, rfl⟩
set_option maxRecDepth 100000 in
theorem d_M_init_158 : Dc m_M_init 158 (.aload_n 0) 1 159 := ⟨by decide +kernel, rfl⟩
set_option maxRecDepth 100000 in
theorem d_M_init_159 : Dc m_M_init 159 (.iconst 4) 1 160 := ⟨by decide +kernel, rfl⟩
set_option maxRecDepth 100000 in
theorem d_M_init_160 : Dc m_M_init 160 (.newarray .int) 2 162 := ⟨by decide +kernel, rfl⟩
set_option maxRecDepth 100000 in
theorem d_M_init_162 : Dc m_M_init 162 .dup 1 163 := ⟨by decide +kernel, rfl⟩
set_option maxRecDepth 100000 in
theorem d_M_init_163 : Dc m_M_init 163 (.iconst 0) 1 164 := ⟨by decide +kernel, rfl⟩
set_option maxRecDepth 100000 in
theorem d_M_init_164 : Dc m_M_init 164 (.iconst (-1)) 1 165 := ⟨by decide +kernel, rfl⟩
set_option maxRecDepth 100000 in
theorem d_M_init_165 : Dc m_M_init 165 .iastore 1 166 := ⟨by decide +kernel, rfl⟩
set_option maxRecDepth 100000 in
theorem d_M_init_166 : Dc m_M_init 166 .dup 1 167 := ⟨by decide +kernel, rfl⟩
set_option maxRecDepth 100000 in
theorem d_M_init_167 : Dc m_M_init 167 (.iconst 1) 1 168 := ⟨by decide +kernel, rfl⟩
set_option maxRecDepth 100000 in
theorem d_M_init_168 : Dc m_M_init 168 (.iconst (-1)) 1 169 := ⟨by decide +kernel, rfl⟩
set_option maxRecDepth 100000 in
theorem d_M_init_169 : Dc m_M_init 169 .iastore 1 170 := ⟨by decide +kernel, rfl⟩
set_option maxRecDepth 100000 in
theorem d_M_init_170 : Dc m_M_init 170 .dup 1 171 := ⟨by decide +kernel, rfl⟩
set_option maxRecDepth 100000 in
theorem d_M_init_171 : Dc m_M_init 171 (.iconst 2) 1 172 := ⟨by decide +kernel, rfl⟩
set_option maxRecDepth 100000 in
theorem d_M_init_172 : Dc m_M_init 172 (.iconst (-1)) 1 173 := ⟨by decide +kernel, rfl⟩
set_option maxRecDepth 100000 in
theorem d_M_init_173 : Dc m_M_init 173 .iastore 1 174 := ⟨by decide +kernel, rfl⟩
set_option maxRecDepth 100000 in
theorem d_M_init_174 : Dc m_M_init 174 .dup 1 175 := ⟨by decide +kernel, rfl⟩
set_option maxRecDepth 100000 in
theorem d_M_init_175 : Dc m_M_init 175 (.iconst 3) 1 176 := ⟨by decide +kernel, rfl⟩
set_option maxRecDepth 100000 in
theorem d_M_init_176 : Dc m_M_init 176 (.iconst (-1)) 1 177 := ⟨by decide +kernel, rfl⟩
set_option maxRecDepth 100000 in
theorem d_M_init_177 : Dc m_M_init 177 .iastore 1 178 := ⟨by decide +kernel, rfl⟩
set_option maxRecDepth 100000 in
theorem d_M_init_178 : Dc m_M_init 178 (.putfield 54) 3 181 := ⟨by decide +kernel, rfl⟩
set_option maxRecDepth 100000 in
theorem d_M_init_181 : Dc m_M_init 181 (.aload_n 0) 1 182 := ⟨by decide +kernel, rfl⟩
set_option maxRecDepth 100000 in
theorem d_M_init_182 : Dc m_M_init 182 (.iconst 4) 1 183 := ⟨by decide +kernel, rfl⟩
set_option maxRecDepth 100000 in
theorem d_M_init_183 : Dc m_M_init 183 (.newarray .int) 2 185 := ⟨by decide +kernel, rfl⟩
set_option maxRecDepth 100000 in
theorem d_M_init_185 : Dc m_M_init 185 (.putfield 57) 3 188 := ⟨by decide +kernel, rfl⟩
set_option maxRecDepth 100000 in
theorem d_M_init_188 : Dc m_M_init 188 (.aload_n 0) 1 189 := ⟨by decide +kernel, rfl⟩
set_option maxRecDepth 100000 in
theorem d_M_init_189 : Dc m_M_init 189 (.iconst 4) 1 190 := ⟨by decide +kernel, rfl⟩
set_option maxRecDepth 100000 in
theorem d_M_init_190 : Dc m_M_init 190 (.newarray .int) 2 192 := ⟨by decide +kernel, rfl⟩
set_option maxRecDepth 100000 in
theorem d_M_init_192 : Dc m_M_init 192 (.putfield 60) 3 195 := ⟨by decide +kernel, rfl⟩
set_option maxRecDepth 100000 in
theorem d_M_init_195 : Dc m_M_init 195 (.aload_n 0) 1 196 := ⟨by decide +kernel, rfl⟩
set_option maxRecDepth 100000 in
theorem d_M_init_196 : Dc m_M_init 196 (.bipush (30)) 2 198 := ⟨by decide +kernel, rfl⟩
set_option maxRecDepth 100000 in
theorem d_M_init_198 : Dc m_M_init 198 (.newarray .int) 2 200 := ⟨by decide +kernel, rfl⟩
set_option maxRecDepth 100000 in
theorem d_M_init_200 : Dc m_M_init 200 (.putfield 63) 3 203 := ⟨by decide +kernel, rfl⟩
set_option maxRecDepth 100000 in
theorem d_M_init_203 : Dc m_M_init 203 (.aload_n 0) 1 204 := ⟨by decide +kernel, rfl⟩
set_option maxRecDepth 100000 in
theorem d_M_init_204 : Dc m_M_init 204 (.sipush (490)) 3 207 := ⟨by decide +kernel, rfl⟩
set_option maxRecDepth 100000 in
theorem d_M_init_207 : Dc m_M_init 207 (.newarray .int) 2 209 := ⟨by decide +kernel, rfl⟩
set_option maxRecDepth 100000 in
theorem d_M_init_209 : Dc m_M_init 209 (.putfield 66) 3 212 := ⟨by decide +kernel, rfl⟩
set_option maxRecDepth 100000 in
theorem d_M_init_212 : Dc m_M_init 212 (.aload_n 0) 1 213 := ⟨by decide +kernel, rfl⟩
set_option maxRecDepth 100000 in
theorem d_M_init_213 : Dc m_M_init 213 (.iconst 2) 1 214 := ⟨by decide +kernel, rfl⟩
set_option maxRecDepth 100000 in
theorem d_M_init_214 : Dc m_M_init 214 (.newarray .int) 2 216 := ⟨by decide +kernel, rfl⟩
set_option maxRecDepth 100000 in
theorem d_M_init_216 : Dc m_M_init 216 (.putfield 69) 3 219 := ⟨by decide +kernel, rfl⟩
set_option maxRecDepth 100000 in
theorem d_M_init_219 : Dc m_M_init 219 .return_ 1 220 := ⟨by decide +kernel, rfl⟩
set_option maxRecDepth 100000 in
theorem d_M_in_0 : Dc m_M_in 0 (.iload_n 0) 1 1 := ⟨by decide +kernel, rfl⟩
set_option maxRecDepth 100000 in
theorem d_M_in_1 : Dc m_M_in 1 (.iload_n 1) 1 2 := ⟨by decide +kernel, rfl⟩
set_option maxRecDepth 100000 in
theorem d_M_in_2 : Dj m_M_in 2 (.if_icmp .lt) 5 14 := ⟨12, by decide +kernel, rfl, by decide⟩
set_option maxRecDepth 100000 in
theorem d_M_in_5 : Dc m_M_in 5 (.iload_n 0) 1 6 := ⟨by decide +kernel, rfl⟩
set_option maxRecDepth 100000 in
theorem d_M_in_6 : Dc m_M_in 6 (.iload_n 2) 1 7 := ⟨by decide +kernel, rfl⟩
set_option maxRecDepth 100000 in
theorem d_M_in_7 : Dj m_M_in 7 (.if_icmp .gt) 10 14 := ⟨7, by decide +kernel, rfl, by decide⟩
set_option maxRecDepth 100000 in
theorem d_M_in_10 : Dc m_M_in 10 (.iconst 1) 1 11 := ⟨by decide +kernel, rfl⟩
set_option maxRecDepth 100000 in
theorem d_M_in_11 : Dj m_M_in 11 .goto 14 15 := ⟨4, by decide +kernel, rfl, by decide⟩
set_option maxRecDepth 100000 in
theorem d_M_in_14 : Dc m_M_in 14 (.iconst 0) 1 15 := ⟨by decide +kernel, rfl⟩
set_option maxRecDepth 100000 in
theorem d_M_in_15 : Dc m_M_in 15 .ireturn 1 16 := ⟨by decide +kernel, rfl⟩
set_option maxRecDepth 100000 in
theorem d_M_isLearner_0 : Dc m_M_isLearner 0 (.iload_n 1) 1 1 := ⟨by decide +kernel, rfl⟩
set_option maxRecDepth 100000 in
theorem d_M_isLearner_1 : Dc m_M_isLearner 1 (.iconst 0) 1 2 := ⟨by decide +kernel, rfl⟩
set_option maxRecDepth 100000 in
theorem d_M_isLearner_2 : Dc m_M_isLearner 2 (.aload_n 0) 1 3 := ⟨by decide +kernel, rfl⟩
set_option maxRecDepth 100000 in
theorem d_M_isLearner_3 : Dc m_M_isLearner 3 (.getfield 7) 3 6 := ⟨by decide +kernel, rfl⟩
set_option maxRecDepth 100000 in
theorem d_M_isLearner_6 : Dc m_M_isLearner 6 (.iconst 0) 1 7 := ⟨by decide +kernel, rfl⟩
set_option maxRecDepth 100000 in
theorem d_M_isLearner_7 : Dc m_M_isLearner 7 .iaload 1 8 := ⟨by decide +kernel, rfl⟩
set_option maxRecDepth 100000 in
theorem d_M_isLearner_8 : Dc m_M_isLearner 8 (.iconst 1) 1 9 := ⟨by decide +kernel, rfl⟩
set_option maxRecDepth 100000 in
theorem d_M_isLearner_9 : Dc m_M_isLearner 9 .isub 1 10 := ⟨by decide +kernel, rfl⟩
set_option maxRecDepth 100000 in
theorem d_M_isLearner_10 : Dc m_M_isLearner 10 (.invokestatic 72) 3 13 := ⟨by decide +kernel, rfl⟩
set_option maxRecDepth 100000 in
theorem d_M_isLearner_13 : Dc m_M_isLearner 13 .ireturn 1 14 := ⟨by decide +kernel, rfl⟩
set_option maxRecDepth 100000 in
theorem d_M_isPair_0 : Dc m_M_isPair 0 (.iload_n 0) 1 1 := ⟨by decide +kernel, rfl⟩
set_option maxRecDepth 100000 in
theorem d_M_isPair_1 : Dc m_M_isPair 1 (.iconst 0) 1 2 := ⟨by decide +kernel, rfl⟩
set_option maxRecDepth 100000 in
theorem d_M_isPair_2 : Dc m_M_isPair 2 (.bipush (35)) 2 4 := ⟨by decide +kernel, rfl⟩
set_option maxRecDepth 100000 in
theorem d_M_isPair_4 : Dc m_M_isPair 4 (.invokestatic 72) 3 7 := ⟨by decide +kernel, rfl⟩
set_option maxRecDepth 100000 in
theorem d_M_isPair_7 : Dc m_M_isPair 7 .ireturn 1 8 := ⟨by decide +kernel, rfl⟩
set_option maxRecDepth 100000 in
theorem d_M_isTime_0 : Dc m_M_isTime 0 (.iload_n 0) 1 1 := ⟨by decide +kernel, rfl⟩
set_option maxRecDepth 100000 in
theorem d_M_isTime_1 : Dc m_M_isTime 1 (.iconst 1) 1 2 := ⟨by decide +kernel, rfl⟩
set_option maxRecDepth 100000 in
theorem d_M_isTime_2 : Dc m_M_isTime 2 (.bipush (9)) 2 4 := ⟨by decide +kernel, rfl⟩
set_option maxRecDepth 100000 in
theorem d_M_isTime_4 : Dc m_M_isTime 4 (.invokestatic 72) 3 7 := ⟨by decide +kernel, rfl⟩
set_option maxRecDepth 100000 in
theorem d_M_isTime_7 : Dc m_M_isTime 7 .ireturn 1 8 := ⟨by decide +kernel, rfl⟩
set_option maxRecDepth 100000 in
theorem d_M_isSide_0 : Dc m_M_isSide 0 (.iload_n 0) 1 1 := ⟨by decide +kernel, rfl⟩
set_option maxRecDepth 100000 in
theorem d_M_isSide_1 : Dc m_M_isSide 1 (.iconst 0) 1 2 := ⟨by decide +kernel, rfl⟩
set_option maxRecDepth 100000 in
theorem d_M_isSide_2 : Dc m_M_isSide 2 (.iconst 1) 1 3 := ⟨by decide +kernel, rfl⟩
set_option maxRecDepth 100000 in
theorem d_M_isSide_3 : Dc m_M_isSide 3 (.invokestatic 72) 3 6 := ⟨by decide +kernel, rfl⟩
set_option maxRecDepth 100000 in
theorem d_M_isSide_6 : Dc m_M_isSide 6 .ireturn 1 7 := ⟨by decide +kernel, rfl⟩
set_option maxRecDepth 100000 in
theorem d_M_lesser_0 : Dc m_M_lesser 0 (.iconst 2) 1 1 := ⟨by decide +kernel, rfl⟩
set_option maxRecDepth 100000 in
theorem d_M_lesser_1 : Dc m_M_lesser 1 (.istore_n 1) 1 2 := ⟨by decide +kernel, rfl⟩
set_option maxRecDepth 100000 in
theorem d_M_lesser_2 : Dc m_M_lesser 2 (.iload_n 0) 1 3 := ⟨by decide +kernel, rfl⟩
set_option maxRecDepth 100000 in
theorem d_M_lesser_3 : Dc m_M_lesser 3 (.istore_n 2) 1 4 := ⟨by decide +kernel, rfl⟩
set_option maxRecDepth 100000 in
theorem d_M_lesser_4 : Dc m_M_lesser 4 (.iload_n 2) 1 5 := ⟨by decide +kernel, rfl⟩
set_option maxRecDepth 100000 in
theorem d_M_lesser_5 : Dc m_M_lesser 5 (.bipush (9)) 2 7 := ⟨by decide +kernel, rfl⟩
set_option maxRecDepth 100000 in
theorem d_M_lesser_7 : Dc m_M_lesser 7 (.iload_n 1) 1 8 := ⟨by decide +kernel, rfl⟩
set_option maxRecDepth 100000 in
theorem d_M_lesser_8 : Dc m_M_lesser 8 .isub 1 9 := ⟨by decide +kernel, rfl⟩
set_option maxRecDepth 100000 in
theorem d_M_lesser_9 : Dj m_M_lesser 9 (.if_icmp .le) 12 25 := ⟨16, by decide +kernel, rfl, by decide⟩
set_option maxRecDepth 100000 in
theorem d_M_lesser_12 : Dc m_M_lesser 12 (.iload_n 2) 1 13 := ⟨by decide +kernel, rfl⟩
set_option maxRecDepth 100000 in
theorem d_M_lesser_13 : Dc m_M_lesser 13 (.bipush (10)) 2 15 := ⟨by decide +kernel, rfl⟩
set_option maxRecDepth 100000 in
theorem d_M_lesser_15 : Dc m_M_lesser 15 (.iload_n 1) 1 16 := ⟨by decide +kernel, rfl⟩
set_option maxRecDepth 100000 in
theorem d_M_lesser_16 : Dc m_M_lesser 16 .isub 1 17 := ⟨by decide +kernel, rfl⟩
set_option maxRecDepth 100000 in
theorem d_M_lesser_17 : Dc m_M_lesser 17 .isub 1 18 := ⟨by decide +kernel, rfl⟩
set_option maxRecDepth 100000 in
theorem d_M_lesser_18 : Dc m_M_lesser 18 (.istore_n 2) 1 19 := ⟨by decide +kernel, rfl⟩
set_option maxRecDepth 100000 in
theorem d_M_lesser_19 : Dc m_M_lesser 19 (.iinc 1 (1)) 3 22 := ⟨by decide +kernel, rfl⟩
set_option maxRecDepth 100000 in
theorem d_M_lesser_22 : Dj m_M_lesser 22 .goto 25 4 := ⟨-18, by decide +kernel, rfl, by decide⟩
set_option maxRecDepth 100000 in
theorem d_M_lesser_25 : Dc m_M_lesser 25 (.iload_n 1) 1 26 := ⟨by decide +kernel, rfl⟩
set_option maxRecDepth 100000 in
theorem d_M_lesser_26 : Dc m_M_lesser 26 .ireturn 1 27 := ⟨by decide +kernel, rfl⟩
set_option maxRecDepth 100000 in
theorem d_M_greater_0 : Dc m_M_greater 0 (.iconst 2) 1 1 := ⟨by decide +kernel, rfl⟩
set_option maxRecDepth 100000 in
theorem d_M_greater_1 : Dc m_M_greater 1 (.istore_n 1) 1 2 := ⟨by decide +kernel, rfl⟩
set_option maxRecDepth 100000 in
theorem d_M_greater_2 : Dc m_M_greater 2 (.iload_n 0) 1 3 := ⟨by decide +kernel, rfl⟩
set_option maxRecDepth 100000 in
theorem d_M_greater_3 : Dc m_M_greater 3 (.istore_n 2) 1 4 := ⟨by decide +kernel, rfl⟩
set_option maxRecDepth 100000 in
theorem d_M_greater_4 : Dc m_M_greater 4 (.iload_n 2) 1 5 := ⟨by decide +kernel, rfl⟩
set_option maxRecDepth 100000 in
theorem d_M_greater_5 : Dc m_M_greater 5 (.bipush (9)) 2 7 := ⟨by decide +kernel, rfl⟩
set_option maxRecDepth 100000 in
theorem d_M_greater_7 : Dc m_M_greater 7 (.iload_n 1) 1 8 := ⟨by decide +kernel, rfl⟩
set_option maxRecDepth 100000 in
theorem d_M_greater_8 : Dc m_M_greater 8 .isub 1 9 := ⟨by decide +kernel, rfl⟩
set_option maxRecDepth 100000 in
theorem d_M_greater_9 : Dj m_M_greater 9 (.if_icmp .le) 12 25 := ⟨16, by decide +kernel, rfl, by decide⟩
set_option maxRecDepth 100000 in
theorem d_M_greater_12 : Dc m_M_greater 12 (.iload_n 2) 1 13 := ⟨by decide +kernel, rfl⟩
set_option maxRecDepth 100000 in
theorem d_M_greater_13 : Dc m_M_greater 13 (.bipush (10)) 2 15 := ⟨by decide +kernel, rfl⟩
set_option maxRecDepth 100000 in
theorem d_M_greater_15 : Dc m_M_greater 15 (.iload_n 1) 1 16 := ⟨by decide +kernel, rfl⟩
set_option maxRecDepth 100000 in
theorem d_M_greater_16 : Dc m_M_greater 16 .isub 1 17 := ⟨by decide +kernel, rfl⟩
set_option maxRecDepth 100000 in
theorem d_M_greater_17 : Dc m_M_greater 17 .isub 1 18 := ⟨by decide +kernel, rfl⟩
set_option maxRecDepth 100000 in
theorem d_M_greater_18 : Dc m_M_greater 18 (.istore_n 2) 1 19 := ⟨by decide +kernel, rfl⟩
set_option maxRecDepth 100000 in
theorem d_M_greater_19 : Dc m_M_greater 19 (.iinc 1 (1)) 3 22 := ⟨by decide +kernel, rfl⟩
set_option maxRecDepth 100000 in
theorem d_M_greater_22 : Dj m_M_greater 22 .goto 25 4 := ⟨-18, by decide +kernel, rfl, by decide⟩
set_option maxRecDepth 100000 in
theorem d_M_greater_25 : Dc m_M_greater 25 (.iload_n 1) 1 26 := ⟨by decide +kernel, rfl⟩
set_option maxRecDepth 100000 in
theorem d_M_greater_26 : Dc m_M_greater 26 (.iload_n 2) 1 27 := ⟨by decide +kernel, rfl⟩
set_option maxRecDepth 100000 in
theorem d_M_greater_27 : Dc m_M_greater 27 .iadd 1 28 := ⟨by decide +kernel, rfl⟩
set_option maxRecDepth 100000 in
theorem d_M_greater_28 : Dc m_M_greater 28 .ireturn 1 29 := ⟨by decide +kernel, rfl⟩
set_option maxRecDepth 100000 in
theorem d_M_pairBy_0 : Dc m_M_pairBy 0 (.iload_n 0) 1 1 := ⟨by decide +kernel, rfl⟩
set_option maxRecDepth 100000 in
theorem d_M_pairBy_1 : Dc m_M_pairBy 1 (.iconst 2) 1 2 := ⟨by decide +kernel, rfl⟩
set_option maxRecDepth 100000 in
theorem d_M_pairBy_2 : Dc m_M_pairBy 2 (.bipush (9)) 2 4 := ⟨by decide +kernel, rfl⟩
set_option maxRecDepth 100000 in
theorem d_M_pairBy_4 : Dc m_M_pairBy 4 (.invokestatic 72) 3 7 := ⟨by decide +kernel, rfl⟩
set_option maxRecDepth 100000 in
theorem d_M_pairBy_7 : Dj m_M_pairBy 7 (.ifCond .eq) 10 20 := ⟨13, by decide +kernel, rfl, by decide⟩
set_option maxRecDepth 100000 in
theorem d_M_pairBy_10 : Dc m_M_pairBy 10 (.iload_n 1) 1 11 := ⟨by decide +kernel, rfl⟩
set_option maxRecDepth 100000 in
theorem d_M_pairBy_11 : Dc m_M_pairBy 11 (.iconst 2) 1 12 := ⟨by decide +kernel, rfl⟩
set_option maxRecDepth 100000 in
theorem d_M_pairBy_12 : Dc m_M_pairBy 12 (.bipush (9)) 2 14 := ⟨by decide +kernel, rfl⟩
set_option maxRecDepth 100000 in
theorem d_M_pairBy_14 : Dc m_M_pairBy 14 (.invokestatic 72) 3 17 := ⟨by decide +kernel, rfl⟩
set_option maxRecDepth 100000 in
theorem d_M_pairBy_17 : Dj m_M_pairBy 17 (.ifCond .ne) 20 22 := ⟨5, by decide +kernel, rfl, by decide⟩
set_option maxRecDepth 100000 in
theorem d_M_pairBy_20 : Dc m_M_pairBy 20 (.iconst (-1)) 1 21 := ⟨by decide +kernel, rfl⟩
set_option maxRecDepth 100000 in
theorem d_M_pairBy_21 : Dc m_M_pairBy 21 .ireturn 1 22 := ⟨by decide +kernel, rfl⟩
set_option maxRecDepth 100000 in
theorem d_M_pairBy_22 : Dc m_M_pairBy 22 (.iload_n 0) 1 23 := ⟨by decide +kernel, rfl⟩
set_option maxRecDepth 100000 in
theorem d_M_pairBy_23 : Dc m_M_pairBy 23 (.iload_n 1) 1 24 := ⟨by decide +kernel, rfl⟩
set_option maxRecDepth 100000 in
theorem d_M_pairBy_24 : Dj m_M_pairBy 24 (.if_icmp .ge) 27 31 := ⟨7, by decide +kernel, rfl, by decide⟩
set_option maxRecDepth 100000 in
theorem d_M_pairBy_27 : Dc m_M_pairBy 27 (.iload_n 0) 1 28 := ⟨by decide +kernel, rfl⟩
set_option maxRecDepth 100000 in
theorem d_M_pairBy_28 : Dj m_M_pairBy 28 .goto 31 32 := ⟨4, by decide +kernel, rfl, by decide⟩
set_option maxRecDepth 100000 in
theorem d_M_pairBy_31 : Dc m_M_pairBy 31 (.iload_n 1) 1 32 := ⟨by decide +kernel, rfl⟩
set_option maxRecDepth 100000 in
theorem d_M_pairBy_32 : Dc m_M_pairBy 32 (.istore_n 2) 1 33 := ⟨by decide +kernel, rfl⟩
set_option maxRecDepth 100000 in
theorem d_M_pairBy_33 : Dc m_M_pairBy 33 (.iload_n 0) 1 34 := ⟨by decide +kernel, rfl⟩
set_option maxRecDepth 100000 in
theorem d_M_pairBy_34 : Dc m_M_pairBy 34 (.iload_n 1) 1 35 := ⟨by decide +kernel, rfl⟩
set_option maxRecDepth 100000 in
theorem d_M_pairBy_35 : Dj m_M_pairBy 35 (.if_icmp .ge) 38 42 := ⟨7, by decide +kernel, rfl, by decide⟩
set_option maxRecDepth 100000 in
theorem d_M_pairBy_38 : Dc m_M_pairBy 38 (.iload_n 1) 1 39 := ⟨by decide +kernel, rfl⟩
set_option maxRecDepth 100000 in
theorem d_M_pairBy_39 : Dj m_M_pairBy 39 .goto 42 43 := ⟨4, by decide +kernel, rfl, by decide⟩
set_option maxRecDepth 100000 in
theorem d_M_pairBy_42 : Dc m_M_pairBy 42 (.iload_n 0) 1 43 := ⟨by decide +kernel, rfl⟩
set_option maxRecDepth 100000 in
theorem d_M_pairBy_43 : Dc m_M_pairBy 43 (.istore_n 3) 1 44 := ⟨by decide +kernel, rfl⟩
set_option maxRecDepth 100000 in
theorem d_M_pairBy_44 : Dc m_M_pairBy 44 (.iconst 0) 1 45 := ⟨by decide +kernel, rfl⟩
set_option maxRecDepth 100000 in
theorem d_M_pairBy_45 : Dc m_M_pairBy 45 (.istore 4) 2 47 := ⟨by decide +kernel, rfl⟩
set_option maxRecDepth 100000 in
theorem d_M_pairBy_47 : Dc m_M_pairBy 47 (.iconst 2) 1 48 := ⟨by decide +kernel, rfl⟩
set_option maxRecDepth 100000 in
theorem d_M_pairBy_48 : Dc m_M_pairBy 48 (.istore 5) 2 50 := ⟨by decide +kernel, rfl⟩
set_option maxRecDepth 100000 in
theorem d_M_pairBy_50 : Dc m_M_pairBy 50 (.iload 5) 2 52 := ⟨by decide +kernel, rfl⟩
set_option maxRecDepth 100000 in
theorem d_M_pairBy_52 : Dc m_M_pairBy 52 (.iload_n 2) 1 53 := ⟨by decide +kernel, rfl⟩
set_option maxRecDepth 100000 in
theorem d_M_pairBy_53 : Dj m_M_pairBy 53 (.if_icmp .ge) 56 72 := ⟨19, by decide +kernel, rfl, by decide⟩
set_option maxRecDepth 100000 in
theorem d_M_pairBy_56 : Dc m_M_pairBy 56 (.iload 4) 2 58 := ⟨by decide +kernel, rfl⟩
set_option maxRecDepth 100000 in
theorem d_M_pairBy_58 : Dc m_M_pairBy 58 (.bipush (10)) 2 60 := ⟨by decide +kernel, rfl⟩
set_option maxRecDepth 100000 in
theorem d_M_pairBy_60 : Dc m_M_pairBy 60 (.iload 5) 2 62 := ⟨by decide +kernel, rfl⟩
set_option maxRecDepth 100000 in
theorem d_M_pairBy_62 : Dc m_M_pairBy 62 .isub 1 63 := ⟨by decide +kernel, rfl⟩
set_option maxRecDepth 100000 in
theorem d_M_pairBy_63 : Dc m_M_pairBy 63 .iadd 1 64 := ⟨by decide +kernel, rfl⟩
set_option maxRecDepth 100000 in
theorem d_M_pairBy_64 : Dc m_M_pairBy 64 (.istore 4) 2 66 := ⟨by decide +kernel, rfl⟩
set_option maxRecDepth 100000 in
theorem d_M_pairBy_66 : Dc m_M_pairBy 66 (.iinc 5 (1)) 3 69 := ⟨by decide +kernel, rfl⟩
set_option maxRecDepth 100000 in
theorem d_M_pairBy_69 : Dj m_M_pairBy 69 .goto 72 50 := ⟨-19, by decide +kernel, rfl, by decide⟩
set_option maxRecDepth 100000 in
theorem d_M_pairBy_72 : Dc m_M_pairBy 72 (.iload 4) 2 74 := ⟨by decide +kernel, rfl⟩
set_option maxRecDepth 100000 in
theorem d_M_pairBy_74 : Dc m_M_pairBy 74 (.iload_n 3) 1 75 := ⟨by decide +kernel, rfl⟩
set_option maxRecDepth 100000 in
theorem d_M_pairBy_75 : Dc m_M_pairBy 75 .iadd 1 76 := ⟨by decide +kernel, rfl⟩
set_option maxRecDepth 100000 in
theorem d_M_pairBy_76 : Dc m_M_pairBy 76 (.iload_n 2) 1 77 := ⟨by decide +kernel, rfl⟩
set_option maxRecDepth 100000 in
theorem d_M_pairBy_77 : Dc m_M_pairBy 77 .isub 1 78 := ⟨by decide +kernel, rfl⟩
set_option maxRecDepth 100000 in
theorem d_M_pairBy_78 : Dc m_M_pairBy 78 .ireturn 1 79 := ⟨by decide +kernel, rfl⟩
set_option maxRecDepth 100000 in
theorem d_M_product_0 : Dc m_M_product 0 (.iload_n 0) 1 1 := ⟨by decide +kernel, rfl⟩
set_option maxRecDepth 100000 in
theorem d_M_product_1 : Dc m_M_product 1 (.invokestatic 76) 3 4 := ⟨by decide +kernel, rfl⟩
set_option maxRecDepth 100000 in
theorem d_M_product_4 : Dc m_M_product 4 (.iload_n 0) 1 5 := ⟨by decide +kernel, rfl⟩
set_option maxRecDepth 100000 in
theorem d_M_product_5 : Dc m_M_product 5 (.invokestatic 80) 3 8 := ⟨by decide +kernel, rfl⟩
set_option maxRecDepth 100000 in
theorem d_M_product_8 : Dc m_M_product 8 .imul 1 9 := ⟨by decide +kernel, rfl⟩
set_option maxRecDepth 100000 in
theorem d_M_product_9 : Dc m_M_product 9 .ireturn 1 10 := ⟨by decide +kernel, rfl⟩
set_option maxRecDepth 100000 in
theorem d_M_firmAtFirst_0 : Dc m_M_firmAtFirst 0 (.iload_n 0) 1 1 := ⟨by decide +kernel, rfl⟩
set_option maxRecDepth 100000 in
theorem d_M_firmAtFirst_1 : Dc m_M_firmAtFirst 1 (.invokestatic 76) 3 4 := ⟨by decide +kernel, rfl⟩
set_option maxRecDepth 100000 in
theorem d_M_firmAtFirst_4 : Dc m_M_firmAtFirst 4 (.istore_n 1) 1 5 := ⟨by decide +kernel, rfl⟩
set_option maxRecDepth 100000 in
theorem d_M_firmAtFirst_5 : Dc m_M_firmAtFirst 5 (.iload_n 0) 1 6 := ⟨by decide +kernel, rfl⟩
set_option maxRecDepth 100000 in
theorem d_M_firmAtFirst_6 : Dc m_M_firmAtFirst 6 (.invokestatic 80) 3 9 := ⟨by decide +kernel, rfl⟩
set_option maxRecDepth 100000 in
theorem d_M_firmAtFirst_9 : Dc m_M_firmAtFirst 9 (.istore_n 2) 1 10 := ⟨by decide +kernel, rfl⟩
set_option maxRecDepth 100000 in
theorem d_M_firmAtFirst_10 : Dc m_M_firmAtFirst 10 (.iload_n 1) 1 11 := ⟨by decide +kernel, rfl⟩
set_option maxRecDepth 100000 in
theorem d_M_firmAtFirst_11 : Dc m_M_firmAtFirst 11 (.iconst 2) 1 12 := ⟨by decide +kernel, rfl⟩
set_option maxRecDepth 100000 in
theorem d_M_firmAtFirst_12 : Dj m_M_firmAtFirst 12 (.if_icmp .ne) 15 20 := ⟨8, by decide +kernel, rfl, by decide⟩
set_option maxRecDepth 100000 in
theorem d_M_firmAtFirst_15 : Dc m_M_firmAtFirst 15 (.bipush (80)) 2 17 := ⟨by decide +kernel, rfl⟩
set_option maxRecDepth 100000 in
theorem d_M_firmAtFirst_17 : Dj m_M_firmAtFirst 17 .goto 20 53 := ⟨36, by decide +kernel, rfl, by decide⟩
set_option maxRecDepth 100000 in
theorem d_M_firmAtFirst_20 : Dc m_M_firmAtFirst 20 (.iload_n 1) 1 21 := ⟨by decide +kernel, rfl⟩
set_option maxRecDepth 100000 in
theorem d_M_firmAtFirst_21 : Dc m_M_firmAtFirst 21 (.iconst 5) 1 22 := ⟨by decide +kernel, rfl⟩
set_option maxRecDepth 100000 in
theorem d_M_firmAtFirst_22 : Dj m_M_firmAtFirst 22 (.if_icmp .eq) 25 30 := ⟨8, by decide +kernel, rfl, by decide⟩
set_option maxRecDepth 100000 in
theorem d_M_firmAtFirst_25 : Dc m_M_firmAtFirst 25 (.iload_n 2) 1 26 := ⟨by decide +kernel, rfl⟩
set_option maxRecDepth 100000 in
theorem d_M_firmAtFirst_26 : Dc m_M_firmAtFirst 26 (.iconst 5) 1 27 := ⟨by decide +kernel, rfl⟩
set_option maxRecDepth 100000 in
theorem d_M_firmAtFirst_27 : Dj m_M_firmAtFirst 27 (.if_icmp .ne) 30 35 := ⟨8, by decide +kernel, rfl, by decide⟩
set_option maxRecDepth 100000 in
theorem d_M_firmAtFirst_30 : Dc m_M_firmAtFirst 30 (.bipush (70)) 2 32 := ⟨by decide +kernel, rfl⟩
set_option maxRecDepth 100000 in
theorem d_M_firmAtFirst_32 : Dj m_M_firmAtFirst 32 .goto 35 53 := ⟨21, by decide +kernel, rfl, by decide⟩
set_option maxRecDepth 100000 in
theorem d_M_firmAtFirst_35 : Dc m_M_firmAtFirst 35 (.iload_n 1) 1 36 := ⟨by decide +kernel, rfl⟩
set_option maxRecDepth 100000 in
theorem d_M_firmAtFirst_36 : Dc m_M_firmAtFirst 36 (.iload_n 2) 1 37 := ⟨by decide +kernel, rfl⟩
set_option maxRecDepth 100000 in
theorem d_M_firmAtFirst_37 : Dj m_M_firmAtFirst 37 (.if_icmp .ne) 40 45 := ⟨8, by decide +kernel, rfl, by decide⟩
set_option maxRecDepth 100000 in
theorem d_M_firmAtFirst_40 : Dc m_M_firmAtFirst 40 (.bipush (60)) 2 42 := ⟨by decide +kernel, rfl⟩
set_option maxRecDepth 100000 in
theorem d_M_firmAtFirst_42 : Dj m_M_firmAtFirst 42 .goto 45 53 := ⟨11, by decide +kernel, rfl, by decide⟩
set_option maxRecDepth 100000 in
theorem d_M_firmAtFirst_45 : Dc m_M_firmAtFirst 45 (.bipush (60)) 2 47 := ⟨by decide +kernel, rfl⟩
set_option maxRecDepth 100000 in
theorem d_M_firmAtFirst_47 : Dc m_M_firmAtFirst 47 (.iload_n 1) 1 48 := ⟨by decide +kernel, rfl⟩
set_option maxRecDepth 100000 in
theorem d_M_firmAtFirst_48 : Dc m_M_firmAtFirst 48 (.iload_n 2) 1 49 := ⟨by decide +kernel, rfl⟩
set_option maxRecDepth 100000 in
theorem d_M_firmAtFirst_49 : Dc m_M_firmAtFirst 49 .imul 1 50 := ⟨by decide +kernel, rfl⟩
set_option maxRecDepth 100000 in
theorem d_M_firmAtFirst_50 : Dc m_M_firmAtFirst 50 (.iconst 2) 1 51 := ⟨by decide +kernel, rfl⟩
set_option maxRecDepth 100000 in
theorem d_M_firmAtFirst_51 : Dc m_M_firmAtFirst 51 .idiv 1 52 := ⟨by decide +kernel, rfl⟩
set_option maxRecDepth 100000 in
theorem d_M_firmAtFirst_52 : Dc m_M_firmAtFirst 52 .isub 1 53 := ⟨by decide +kernel, rfl⟩
set_option maxRecDepth 100000 in
theorem d_M_firmAtFirst_53 : Dc m_M_firmAtFirst 53 .ireturn 1 54 := ⟨by decide +kernel, rfl⟩
set_option maxRecDepth 100000 in
theorem d_M_bitOf_0 : Dc m_M_bitOf 0 (.iload_n 0) 1 1 := ⟨by decide +kernel, rfl⟩
set_option maxRecDepth 100000 in
theorem d_M_bitOf_1 : Dj m_M_bitOf 1 (.ifCond .ge) 4 8 := ⟨7, by decide +kernel, rfl, by decide⟩
set_option maxRecDepth 100000 in
theorem d_M_bitOf_4 : Dc m_M_bitOf 4 (.lconst 0) 1 5 := ⟨by decide +kernel, rfl⟩
set_option maxRecDepth 100000 in
theorem d_M_bitOf_5 : Dj m_M_bitOf 5 .goto 8 11 := ⟨6, by decide +kernel, rfl, by decide⟩
set_option maxRecDepth 100000 in
theorem d_M_bitOf_8 : Dc m_M_bitOf 8 (.lconst 1) 1 9 := ⟨by decide +kernel, rfl⟩
set_option maxRecDepth 100000 in
theorem d_M_bitOf_9 : Dc m_M_bitOf 9 (.iload_n 0) 1 10 := ⟨by decide +kernel, rfl⟩
set_option maxRecDepth 100000 in
theorem d_M_bitOf_10 : Dc m_M_bitOf 10 .lshl 1 11 := ⟨by decide +kernel, rfl⟩
set_option maxRecDepth 100000 in
theorem d_M_bitOf_11 : Dc m_M_bitOf 11 .lreturn 1 12 := ⟨by decide +kernel, rfl⟩
set_option maxRecDepth 100000 in
theorem d_M_tiedTo_0 : Dc m_M_tiedTo 0 (.iload_n 0) 1 1 := ⟨by decide +kernel, rfl⟩
set_option maxRecDepth 100000 in
theorem d_M_tiedTo_1 : Dc m_M_tiedTo 1 (.invokestatic 76) 3 4 := ⟨by decide +kernel, rfl⟩
set_option maxRecDepth 100000 in
theorem d_M_tiedTo_4 : Dc m_M_tiedTo 4 (.istore_n 1) 1 5 := ⟨by decide +kernel, rfl⟩
set_option maxRecDepth 100000 in
theorem d_M_tiedTo_5 : Dc m_M_tiedTo 5 (.iload_n 0) 1 6 := ⟨by decide +kernel, rfl⟩
set_option maxRecDepth 100000 in
theorem d_M_tiedTo_6 : Dc m_M_tiedTo 6 (.invokestatic 80) 3 9 := ⟨by decide +kernel, rfl⟩
set_option maxRecDepth 100000 in
theorem d_M_tiedTo_9 : Dc m_M_tiedTo 9 (.istore_n 2) 1 10 := ⟨by decide +kernel, rfl⟩
set_option maxRecDepth 100000 in
theorem d_M_tiedTo_10 : Dc m_M_tiedTo 10 (.iload_n 1) 1 11 := ⟨by decide +kernel, rfl⟩
set_option maxRecDepth 100000 in
theorem d_M_tiedTo_11 : Dc m_M_tiedTo 11 (.iconst 1) 1 12 := ⟨by decide +kernel, rfl⟩
set_option maxRecDepth 100000 in
theorem d_M_tiedTo_12 : Dc m_M_tiedTo 12 .isub 1 13 := ⟨by decide +kernel, rfl⟩
set_option maxRecDepth 100000 in
theorem d_M_tiedTo_13 : Dc m_M_tiedTo 13 (.iload_n 2) 1 14 := ⟨by decide +kernel, rfl⟩
set_option maxRecDepth 100000 in
theorem d_M_tiedTo_14 : Dc m_M_tiedTo 14 (.invokestatic 83) 3 17 := ⟨by decide +kernel, rfl⟩
set_option maxRecDepth 100000 in
theorem d_M_tiedTo_17 : Dc m_M_tiedTo 17 (.invokestatic 87) 3 20 := ⟨by decide +kernel, rfl⟩
set_option maxRecDepth 100000 in
theorem d_M_tiedTo_20 : Dc m_M_tiedTo 20 (.iload_n 1) 1 21 := ⟨by decide +kernel, rfl⟩
set_option maxRecDepth 100000 in
theorem d_M_tiedTo_21 : Dc m_M_tiedTo 21 (.iconst 1) 1 22 := ⟨by decide +kernel, rfl⟩
set_option maxRecDepth 100000 in
theorem d_M_tiedTo_22 : Dc m_M_tiedTo 22 .iadd 1 23 := ⟨by decide +kernel, rfl⟩
set_option maxRecDepth 100000 in
theorem d_M_tiedTo_23 : Dc m_M_tiedTo 23 (.iload_n 2) 1 24 := ⟨by decide +kernel, rfl⟩
set_option maxRecDepth 100000 in
theorem d_M_tiedTo_24 : Dc m_M_tiedTo 24 (.invokestatic 83) 3 27 := ⟨by decide +kernel, rfl⟩
set_option maxRecDepth 100000 in
theorem d_M_tiedTo_27 : Dc m_M_tiedTo 27 (.invokestatic 87) 3 30 := ⟨by decide +kernel, rfl⟩
set_option maxRecDepth 100000 in
theorem d_M_tiedTo_30 : Dc m_M_tiedTo 30 .lor 1 31 := ⟨by decide +kernel, rfl⟩
set_option maxRecDepth 100000 in
theorem d_M_tiedTo_31 : Dc m_M_tiedTo 31 (.iload_n 1) 1 32 := ⟨by decide +kernel, rfl⟩
set_option maxRecDepth 100000 in
theorem d_M_tiedTo_32 : Dc m_M_tiedTo 32 (.iload_n 2) 1 33 := ⟨by decide +kernel, rfl⟩
set_option maxRecDepth 100000 in
theorem d_M_tiedTo_33 : Dc m_M_tiedTo 33 (.iconst 1) 1 34 := ⟨by decide +kernel, rfl⟩
set_option maxRecDepth 100000 in
theorem d_M_tiedTo_34 : Dc m_M_tiedTo 34 .isub 1 35 := ⟨by decide +kernel, rfl⟩
set_option maxRecDepth 100000 in
theorem d_M_tiedTo_35 : Dc m_M_tiedTo 35 (.invokestatic 83) 3 38 := ⟨by decide +kernel, rfl⟩
set_option maxRecDepth 100000 in
theorem d_M_tiedTo_38 : Dc m_M_tiedTo 38 (.invokestatic 87) 3 41 := ⟨by decide +kernel, rfl⟩
set_option maxRecDepth 100000 in
theorem d_M_tiedTo_41 : Dc m_M_tiedTo 41 .lor 1 42 := ⟨by decide +kernel, rfl⟩
set_option maxRecDepth 100000 in
theorem d_M_tiedTo_42 : Dc m_M_tiedTo 42 (.iload_n 1) 1 43 := ⟨by decide +kernel, rfl⟩
set_option maxRecDepth 100000 in
theorem d_M_tiedTo_43 : Dc m_M_tiedTo 43 (.iload_n 2) 1 44 := ⟨by decide +kernel, rfl⟩
set_option maxRecDepth 100000 in
theorem d_M_tiedTo_44 : Dc m_M_tiedTo 44 (.iconst 1) 1 45 := ⟨by decide +kernel, rfl⟩
set_option maxRecDepth 100000 in
theorem d_M_tiedTo_45 : Dc m_M_tiedTo 45 .iadd 1 46 := ⟨by decide +kernel, rfl⟩
set_option maxRecDepth 100000 in
theorem d_M_tiedTo_46 : Dc m_M_tiedTo 46 (.invokestatic 83) 3 49 := ⟨by decide +kernel, rfl⟩
set_option maxRecDepth 100000 in
theorem d_M_tiedTo_49 : Dc m_M_tiedTo 49 (.invokestatic 87) 3 52 := ⟨by decide +kernel, rfl⟩
set_option maxRecDepth 100000 in
theorem d_M_tiedTo_52 : Dc m_M_tiedTo 52 .lor 1 53 := ⟨by decide +kernel, rfl⟩
set_option maxRecDepth 100000 in
theorem d_M_tiedTo_53 : Dc m_M_tiedTo 53 .lreturn 1 54 := ⟨by decide +kernel, rfl⟩
set_option maxRecDepth 100000 in
theorem d_M_pair_0 : Dc m_M_pair 0 (.iload_n 1) 1 1 := ⟨by decide +kernel, rfl⟩
set_option maxRecDepth 100000 in
theorem d_M_pair_1 : Dc m_M_pair 1 (.iload_n 2) 1 2 := ⟨by decide +kernel, rfl⟩
set_option maxRecDepth 100000 in
theorem d_M_pair_2 : Dc m_M_pair 2 (.invokestatic 83) 3 5 := ⟨by decide +kernel, rfl⟩
set_option maxRecDepth 100000 in
theorem d_M_pair_5 : Dc m_M_pair 5 .ireturn 1 6 := ⟨by decide +kernel, rfl⟩
set_option maxRecDepth 100000 in
theorem d_M_pairOf_0 : Dc m_M_pairOf 0 (.iload_n 1) 1 1 := ⟨by decide +kernel, rfl⟩
set_option maxRecDepth 100000 in
theorem d_M_pairOf_1 : Dc m_M_pairOf 1 (.invokestatic 91) 3 4 := ⟨by decide +kernel, rfl⟩
set_option maxRecDepth 100000 in
theorem d_M_pairOf_4 : Dj m_M_pairOf 4 (.ifCond .eq) 7 16 := ⟨12, by decide +kernel, rfl, by decide⟩
set_option maxRecDepth 100000 in
theorem d_M_pairOf_7 : Dc m_M_pairOf 7 (.iload_n 2) 1 8 := ⟨by decide +kernel, rfl⟩
set_option maxRecDepth 100000 in
theorem d_M_pairOf_8 : Dc m_M_pairOf 8 (.iconst 0) 1 9 := ⟨by decide +kernel, rfl⟩
set_option maxRecDepth 100000 in
theorem d_M_pairOf_9 : Dc m_M_pairOf 9 (.iconst 3) 1 10 := ⟨by decide +kernel, rfl⟩
set_option maxRecDepth 100000 in
theorem d_M_pairOf_10 : Dc m_M_pairOf 10 (.invokestatic 72) 3 13 := ⟨by decide +kernel, rfl⟩
set_option maxRecDepth 100000 in
theorem d_M_pairOf_13 : Dj m_M_pairOf 13 (.ifCond .ne) 16 18 := ⟨5, by decide +kernel, rfl, by decide⟩
set_option maxRecDepth 100000 in
theorem d_M_pairOf_16 : Dc m_M_pairOf 16 (.iconst (-1)) 1 17 := ⟨by decide +kernel, rfl⟩
set_option maxRecDepth 100000 in
theorem d_M_pairOf_17 : Dc m_M_pairOf 17 .ireturn 1 18 := ⟨by decide +kernel, rfl⟩
set_option maxRecDepth 100000 in
theorem d_M_pairOf_18 : Dc m_M_pairOf 18 (.iload_n 2) 1 19 := ⟨by decide +kernel, rfl⟩
set_option maxRecDepth 100000 in
theorem d_M_pairOf_19 : Dj m_M_pairOf 19 (.ifCond .ne) 22 29 := ⟨10, by decide +kernel, rfl, by decide⟩
set_option maxRecDepth 100000 in
theorem d_M_pairOf_22 : Dc m_M_pairOf 22 (.iload_n 1) 1 23 := ⟨by decide +kernel, rfl⟩
set_option maxRecDepth 100000 in
theorem d_M_pairOf_23 : Dc m_M_pairOf 23 (.invokestatic 76) 3 26 := ⟨by decide +kernel, rfl⟩
set_option maxRecDepth 100000 in
theorem d_M_pairOf_26 : Dj m_M_pairOf 26 .goto 29 57 := ⟨31, by decide +kernel, rfl, by decide⟩
set_option maxRecDepth 100000 in
theorem d_M_pairOf_29 : Dc m_M_pairOf 29 (.iload_n 2) 1 30 := ⟨by decide +kernel, rfl⟩
set_option maxRecDepth 100000 in
theorem d_M_pairOf_30 : Dc m_M_pairOf 30 (.iconst 1) 1 31 := ⟨by decide +kernel, rfl⟩
set_option maxRecDepth 100000 in
theorem d_M_pairOf_31 : Dj m_M_pairOf 31 (.if_icmp .ne) 34 41 := ⟨10, by decide +kernel, rfl, by decide⟩
set_option maxRecDepth 100000 in
theorem d_M_pairOf_34 : Dc m_M_pairOf 34 (.iload_n 1) 1 35 := ⟨by decide +kernel, rfl⟩
set_option maxRecDepth 100000 in
theorem d_M_pairOf_35 : Dc m_M_pairOf 35 (.invokestatic 80) 3 38 := ⟨by decide +kernel, rfl⟩
set_option maxRecDepth 100000 in
theorem d_M_pairOf_38 : Dj m_M_pairOf 38 .goto 41 57 := ⟨19, by decide +kernel, rfl, by decide⟩
set_option maxRecDepth 100000 in
theorem d_M_pairOf_41 : Dc m_M_pairOf 41 (.iload_n 2) 1 42 := ⟨by decide +kernel, rfl⟩
set_option maxRecDepth 100000 in
theorem d_M_pairOf_42 : Dc m_M_pairOf 42 (.iconst 2) 1 43 := ⟨by decide +kernel, rfl⟩
set_option maxRecDepth 100000 in
theorem d_M_pairOf_43 : Dj m_M_pairOf 43 (.if_icmp .ne) 46 53 := ⟨10, by decide +kernel, rfl, by decide⟩
set_option maxRecDepth 100000 in
theorem d_M_pairOf_46 : Dc m_M_pairOf 46 (.iload_n 1) 1 47 := ⟨by decide +kernel, rfl⟩
set_option maxRecDepth 100000 in
theorem d_M_pairOf_47 : Dc m_M_pairOf 47 (.invokestatic 95) 3 50 := ⟨by decide +kernel, rfl⟩
set_option maxRecDepth 100000 in
theorem d_M_pairOf_50 : Dj m_M_pairOf 50 .goto 53 57 := ⟨7, by decide +kernel, rfl, by decide⟩
set_option maxRecDepth 100000 in
theorem d_M_pairOf_53 : Dc m_M_pairOf 53 (.iload_n 1) 1 54 := ⟨by decide +kernel, rfl⟩
set_option maxRecDepth 100000 in
theorem d_M_pairOf_54 : Dc m_M_pairOf 54 (.invokestatic 98) 3 57 := ⟨by decide +kernel, rfl⟩
set_option maxRecDepth 100000 in
theorem d_M_pairOf_57 : Dc m_M_pairOf 57 .ireturn 1 58 := ⟨by decide +kernel, rfl⟩
set_option maxRecDepth 100000 in
theorem d_M_tied_0 : Dc m_M_tied 0 (.iload_n 1) 1 1 := ⟨by decide +kernel, rfl⟩
set_option maxRecDepth 100000 in
theorem d_M_tied_1 : Dc m_M_tied 1 (.invokestatic 91) 3 4 := ⟨by decide +kernel, rfl⟩
set_option maxRecDepth 100000 in
theorem d_M_tied_4 : Dj m_M_tied 4 (.ifCond .eq) 7 14 := ⟨10, by decide +kernel, rfl, by decide⟩
set_option maxRecDepth 100000 in
theorem d_M_tied_7 : Dc m_M_tied 7 (.iload_n 1) 1 8 := ⟨by decide +kernel, rfl⟩
set_option maxRecDepth 100000 in
theorem d_M_tied_8 : Dc m_M_tied 8 (.invokestatic 101) 3 11 := ⟨by decide +kernel, rfl⟩
set_option maxRecDepth 100000 in
theorem d_M_tied_11 : Dj m_M_tied 11 .goto 14 17 := ⟨6, by decide +kernel, rfl, by decide⟩
set_option maxRecDepth 100000 in
theorem d_M_tied_14 : Dc m_M_tied 14 (.ldc2_w 104) 3 17 := ⟨by decide +kernel, rfl⟩
set_option maxRecDepth 100000 in
theorem d_M_tied_17 : Dc m_M_tied 17 .lreturn 1 18 := ⟨by decide +kernel, rfl⟩
set_option maxRecDepth 100000 in
theorem d_M_place_0 : Dc m_M_place 0 (.aload_n 0) 1 1 := ⟨by decide +kernel, rfl⟩
set_option maxRecDepth 100000 in
theorem d_M_place_1 : Dc m_M_place 1 (.getfield 106) 3 4 := ⟨by decide +kernel, rfl⟩
set_option maxRecDepth 100000 in
theorem d_M_place_4 : Dc m_M_place 4 (.iconst 2) 1 5 := ⟨by decide +kernel, rfl⟩
set_option maxRecDepth 100000 in
theorem d_M_place_5 : Dc m_M_place 5 .iadd 1 6 := ⟨by decide +kernel, rfl⟩
set_option maxRecDepth 100000 in
theorem d_M_place_6 : Dc m_M_place 6 (.bipush (110)) 2 8 := ⟨by decide +kernel, rfl⟩
set_option maxRecDepth 100000 in
theorem d_M_place_8 : Dc m_M_place 8 (.iload_n 1) 1 9 := ⟨by decide +kernel, rfl⟩
set_option maxRecDepth 100000 in
theorem d_M_place_9 : Dc m_M_place 9 .imul 1 10 := ⟨by decide +kernel, rfl⟩
set_option maxRecDepth 100000 in
theorem d_M_place_10 : Dc m_M_place 10 .iadd 1 11 := ⟨by decide +kernel, rfl⟩
set_option maxRecDepth 100000 in
theorem d_M_place_11 : Dc m_M_place 11 (.iconst 2) 1 12 := ⟨by decide +kernel, rfl⟩
set_option maxRecDepth 100000 in
theorem d_M_place_12 : Dc m_M_place 12 .iadd 1 13 := ⟨by decide +kernel, rfl⟩
set_option maxRecDepth 100000 in
theorem d_M_place_13 : Dc m_M_place 13 (.iconst 3) 1 14 := ⟨by decide +kernel, rfl⟩
set_option maxRecDepth 100000 in
theorem d_M_place_14 : Dc m_M_place 14 (.iload_n 2) 1 15 := ⟨by decide +kernel, rfl⟩
set_option maxRecDepth 100000 in
theorem d_M_place_15 : Dc m_M_place 15 .imul 1 16 := ⟨by decide +kernel, rfl⟩
set_option maxRecDepth 100000 in
theorem d_M_place_16 : Dc m_M_place 16 .iadd 1 17 := ⟨by decide +kernel, rfl⟩
set_option maxRecDepth 100000 in
theorem d_M_place_17 : Dc m_M_place 17 .ireturn 1 18 := ⟨by decide +kernel, rfl⟩
set_option maxRecDepth 100000 in
theorem d_M_firmOf_0 : Dc m_M_firmOf 0 (.aload_n 0) 1 1 := ⟨by decide +kernel, rfl⟩
set_option maxRecDepth 100000 in
theorem d_M_firmOf_1 : Dc m_M_firmOf 1 (.getfield 7) 3 4 := ⟨by decide +kernel, rfl⟩
set_option maxRecDepth 100000 in
theorem d_M_firmOf_4 : Dc m_M_firmOf 4 (.aload_n 0) 1 5 := ⟨by decide +kernel, rfl⟩
set_option maxRecDepth 100000 in
theorem d_M_firmOf_5 : Dc m_M_firmOf 5 (.iload_n 1) 1 6 := ⟨by decide +kernel, rfl⟩
set_option maxRecDepth 100000 in
theorem d_M_firmOf_6 : Dc m_M_firmOf 6 (.iload_n 2) 1 7 := ⟨by decide +kernel, rfl⟩
set_option maxRecDepth 100000 in
theorem d_M_firmOf_7 : Dc m_M_firmOf 7 (.invokevirtual 109) 3 10 := ⟨by decide +kernel, rfl⟩
set_option maxRecDepth 100000 in
theorem d_M_firmOf_10 : Dc m_M_firmOf 10 .iaload 1 11 := ⟨by decide +kernel, rfl⟩
set_option maxRecDepth 100000 in
theorem d_M_firmOf_11 : Dc m_M_firmOf 11 .ireturn 1 12 := ⟨by decide +kernel, rfl⟩
set_option maxRecDepth 100000 in
theorem d_M_rightsOf_0 : Dc m_M_rightsOf 0 (.aload_n 0) 1 1 := ⟨by decide +kernel, rfl⟩
set_option maxRecDepth 100000 in
theorem d_M_rightsOf_1 : Dc m_M_rightsOf 1 (.getfield 7) 3 4 := ⟨by decide +kernel, rfl⟩
set_option maxRecDepth 100000 in
theorem d_M_rightsOf_4 : Dc m_M_rightsOf 4 (.aload_n 0) 1 5 := ⟨by decide +kernel, rfl⟩
set_option maxRecDepth 100000 in
theorem d_M_rightsOf_5 : Dc m_M_rightsOf 5 (.iload_n 1) 1 6 := ⟨by decide +kernel, rfl⟩
set_option maxRecDepth 100000 in
theorem d_M_rightsOf_6 : Dc m_M_rightsOf 6 (.iload_n 2) 1 7 := ⟨by decide +kernel, rfl⟩
set_option maxRecDepth 100000 in
theorem d_M_rightsOf_7 : Dc m_M_rightsOf 7 (.invokevirtual 109) 3 10 := ⟨by decide +kernel, rfl⟩
set_option maxRecDepth 100000 in
theorem d_M_rightsOf_10 : Dc m_M_rightsOf 10 (.iconst 1) 1 11 := ⟨by decide +kernel, rfl⟩
set_option maxRecDepth 100000 in
theorem d_M_rightsOf_11 : Dc m_M_rightsOf 11 .iadd 1 12 := ⟨by decide +kernel, rfl⟩
set_option maxRecDepth 100000 in
theorem d_M_rightsOf_12 : Dc m_M_rightsOf 12 .iaload 1 13 := ⟨by decide +kernel, rfl⟩
set_option maxRecDepth 100000 in
theorem d_M_rightsOf_13 : Dc m_M_rightsOf 13 .ireturn 1 14 := ⟨by decide +kernel, rfl⟩
set_option maxRecDepth 100000 in
theorem d_M_latestOf_0 : Dc m_M_latestOf 0 (.aload_n 0) 1 1 := ⟨by decide +kernel, rfl⟩
set_option maxRecDepth 100000 in
theorem d_M_latestOf_1 : Dc m_M_latestOf 1 (.getfield 7) 3 4 := ⟨by decide +kernel, rfl⟩
set_option maxRecDepth 100000 in
theorem d_M_latestOf_4 : Dc m_M_latestOf 4 (.aload_n 0) 1 5 := ⟨by decide +kernel, rfl⟩
set_option maxRecDepth 100000 in
theorem d_M_latestOf_5 : Dc m_M_latestOf 5 (.iload_n 1) 1 6 := ⟨by decide +kernel, rfl⟩
set_option maxRecDepth 100000 in
theorem d_M_latestOf_6 : Dc m_M_latestOf 6 (.iload_n 2) 1 7 := ⟨by decide +kernel, rfl⟩
set_option maxRecDepth 100000 in
theorem d_M_latestOf_7 : Dc m_M_latestOf 7 (.invokevirtual 109) 3 10 := ⟨by decide +kernel, rfl⟩
set_option maxRecDepth 100000 in
theorem d_M_latestOf_10 : Dc m_M_latestOf 10 (.iconst 2) 1 11 := ⟨by decide +kernel, rfl⟩
set_option maxRecDepth 100000 in
theorem d_M_latestOf_11 : Dc m_M_latestOf 11 .iadd 1 12 := ⟨by decide +kernel, rfl⟩
set_option maxRecDepth 100000 in
theorem d_M_latestOf_12 : Dc m_M_latestOf 12 .iaload 1 13 := ⟨by decide +kernel, rfl⟩
set_option maxRecDepth 100000 in
theorem d_M_latestOf_13 : Dc m_M_latestOf 13 .ireturn 1 14 := ⟨by decide +kernel, rfl⟩
set_option maxRecDepth 100000 in
theorem d_M_kindOf_0 : Dc m_M_kindOf 0 (.aload_n 0) 1 1 := ⟨by decide +kernel, rfl⟩
set_option maxRecDepth 100000 in
theorem d_M_kindOf_1 : Dc m_M_kindOf 1 (.getfield 7) 3 4 := ⟨by decide +kernel, rfl⟩
set_option maxRecDepth 100000 in
theorem d_M_kindOf_4 : Dc m_M_kindOf 4 (.aload_n 0) 1 5 := ⟨by decide +kernel, rfl⟩
set_option maxRecDepth 100000 in
theorem d_M_kindOf_5 : Dc m_M_kindOf 5 (.getfield 106) 3 8 := ⟨by decide +kernel, rfl⟩
set_option maxRecDepth 100000 in
theorem d_M_kindOf_8 : Dc m_M_kindOf 8 (.iconst 2) 1 9 := ⟨by decide +kernel, rfl⟩
set_option maxRecDepth 100000 in
theorem d_M_kindOf_9 : Dc m_M_kindOf 9 .iadd 1 10 := ⟨by decide +kernel, rfl⟩
set_option maxRecDepth 100000 in
theorem d_M_kindOf_10 : Dc m_M_kindOf 10 (.bipush (110)) 2 12 := ⟨by decide +kernel, rfl⟩
set_option maxRecDepth 100000 in
theorem d_M_kindOf_12 : Dc m_M_kindOf 12 (.iload_n 1) 1 13 := ⟨by decide +kernel, rfl⟩
set_option maxRecDepth 100000 in
theorem d_M_kindOf_13 : Dc m_M_kindOf 13 .imul 1 14 := ⟨by decide +kernel, rfl⟩
set_option maxRecDepth 100000 in
theorem d_M_kindOf_14 : Dc m_M_kindOf 14 .iadd 1 15 := ⟨by decide +kernel, rfl⟩
set_option maxRecDepth 100000 in
theorem d_M_kindOf_15 : Dc m_M_kindOf 15 .iaload 1 16 := ⟨by decide +kernel, rfl⟩
set_option maxRecDepth 100000 in
theorem d_M_kindOf_16 : Dc m_M_kindOf 16 .ireturn 1 17 := ⟨by decide +kernel, rfl⟩
set_option maxRecDepth 100000 in
theorem d_M_aOf_0 : Dc m_M_aOf 0 (.aload_n 0) 1 1 := ⟨by decide +kernel, rfl⟩
set_option maxRecDepth 100000 in
theorem d_M_aOf_1 : Dc m_M_aOf 1 (.getfield 7) 3 4 := ⟨by decide +kernel, rfl⟩
set_option maxRecDepth 100000 in
theorem d_M_aOf_4 : Dc m_M_aOf 4 (.aload_n 0) 1 5 := ⟨by decide +kernel, rfl⟩
set_option maxRecDepth 100000 in
theorem d_M_aOf_5 : Dc m_M_aOf 5 (.getfield 106) 3 8 := ⟨by decide +kernel, rfl⟩
set_option maxRecDepth 100000 in
theorem d_M_aOf_8 : Dc m_M_aOf 8 (.iconst 2) 1 9 := ⟨by decide +kernel, rfl⟩
set_option maxRecDepth 100000 in
theorem d_M_aOf_9 : Dc m_M_aOf 9 .iadd 1 10 := ⟨by decide +kernel, rfl⟩
set_option maxRecDepth 100000 in
theorem d_M_aOf_10 : Dc m_M_aOf 10 (.bipush (110)) 2 12 := ⟨by decide +kernel, rfl⟩
set_option maxRecDepth 100000 in
theorem d_M_aOf_12 : Dc m_M_aOf 12 (.iload_n 1) 1 13 := ⟨by decide +kernel, rfl⟩
set_option maxRecDepth 100000 in
theorem d_M_aOf_13 : Dc m_M_aOf 13 .imul 1 14 := ⟨by decide +kernel, rfl⟩
set_option maxRecDepth 100000 in
theorem d_M_aOf_14 : Dc m_M_aOf 14 .iadd 1 15 := ⟨by decide +kernel, rfl⟩
set_option maxRecDepth 100000 in
theorem d_M_aOf_15 : Dc m_M_aOf 15 (.iconst 1) 1 16 := ⟨by decide +kernel, rfl⟩
set_option maxRecDepth 100000 in
theorem d_M_aOf_16 : Dc m_M_aOf 16 .iadd 1 17 := ⟨by decide +kernel, rfl⟩
set_option maxRecDepth 100000 in
theorem d_M_aOf_17 : Dc m_M_aOf 17 .iaload 1 18 := ⟨by decide +kernel, rfl⟩
set_option maxRecDepth 100000 in
theorem d_M_aOf_18 : Dc m_M_aOf 18 .ireturn 1 19 := ⟨by decide +kernel, rfl⟩
set_option maxRecDepth 100000 in
theorem d_M_learner_0 : Dc m_M_learner 0 (.iload_n 1) 1 1 := ⟨by decide +kernel, rfl⟩
set_option maxRecDepth 100000 in
theorem d_M_learner_1 : Dc m_M_learner 1 (.iconst 0) 1 2 := ⟨by decide +kernel, rfl⟩
set_option maxRecDepth 100000 in
theorem d_M_learner_2 : Dc m_M_learner 2 (.iconst 5) 1 3 := ⟨by decide +kernel, rfl⟩
set_option maxRecDepth 100000 in
theorem d_M_learner_3 : Dc m_M_learner 3 (.invokestatic 72) 3 6 := ⟨by decide +kernel, rfl⟩
set_option maxRecDepth 100000 in
theorem d_M_learner_6 : Dj m_M_learner 6 (.ifCond .eq) 9 19 := ⟨13, by decide +kernel, rfl, by decide⟩
set_option maxRecDepth 100000 in
theorem d_M_learner_9 : Dc m_M_learner 9 (.iload_n 2) 1 10 := ⟨by decide +kernel, rfl⟩
set_option maxRecDepth 100000 in
theorem d_M_learner_10 : Dc m_M_learner 10 (.iconst 0) 1 11 := ⟨by decide +kernel, rfl⟩
set_option maxRecDepth 100000 in
theorem d_M_learner_11 : Dc m_M_learner 11 (.bipush (40)) 2 13 := ⟨by decide +kernel, rfl⟩
set_option maxRecDepth 100000 in
theorem d_M_learner_13 : Dc m_M_learner 13 (.invokestatic 72) 3 16 := ⟨by decide +kernel, rfl⟩
set_option maxRecDepth 100000 in
theorem d_M_learner_16 : Dj m_M_learner 16 (.ifCond .ne) 19 21 := ⟨5, by decide +kernel, rfl, by decide⟩
set_option maxRecDepth 100000 in
theorem d_M_learner_19 : Dc m_M_learner 19 (.iconst (-1)) 1 20 := ⟨by decide +kernel, rfl⟩
set_option maxRecDepth 100000 in
theorem d_M_learner_20 : Dc m_M_learner 20 .ireturn 1 21 := ⟨by decide +kernel, rfl⟩
set_option maxRecDepth 100000 in
theorem d_M_learner_21 : Dc m_M_learner 21 (.aload_n 0) 1 22 := ⟨by decide +kernel, rfl⟩
set_option maxRecDepth 100000 in
theorem d_M_learner_22 : Dc m_M_learner 22 (.getfield 7) 3 25 := ⟨by decide +kernel, rfl⟩
set_option maxRecDepth 100000 in
theorem d_M_learner_25 : Dc m_M_learner 25 (.iconst 0) 1 26 := ⟨by decide +kernel, rfl⟩
set_option maxRecDepth 100000 in
theorem d_M_learner_26 : Dc m_M_learner 26 .iaload 1 27 := ⟨by decide +kernel, rfl⟩
set_option maxRecDepth 100000 in
theorem d_M_learner_27 : Dc m_M_learner 27 (.istore_n 3) 1 28 := ⟨by decide +kernel, rfl⟩
set_option maxRecDepth 100000 in
theorem d_M_learner_28 : Dc m_M_learner 28 (.iload_n 3) 1 29 := ⟨by decide +kernel, rfl⟩
set_option maxRecDepth 100000 in
theorem d_M_learner_29 : Dc m_M_learner 29 (.iconst 4) 1 30 := ⟨by decide +kernel, rfl⟩
set_option maxRecDepth 100000 in
theorem d_M_learner_30 : Dj m_M_learner 30 (.if_icmp .ne) 33 36 := ⟨6, by decide +kernel, rfl, by decide⟩
set_option maxRecDepth 100000 in
theorem d_M_learner_33 : Dc m_M_learner 33 (.bipush (-2)) 2 35 := ⟨by decide +kernel, rfl⟩
set_option maxRecDepth 100000 in
theorem d_M_learner_35 : Dc m_M_learner 35 .ireturn 1 36 := ⟨by decide +kernel, rfl⟩
set_option maxRecDepth 100000 in
theorem d_M_learner_36 : Dc m_M_learner 36 (.aload_n 0) 1 37 := ⟨by decide +kernel, rfl⟩
set_option maxRecDepth 100000 in
theorem d_M_learner_37 : Dc m_M_learner 37 (.getfield 7) 3 40 := ⟨by decide +kernel, rfl⟩
set_option maxRecDepth 100000 in
theorem d_M_learner_40 : Dc m_M_learner 40 (.iconst 2) 1 41 := ⟨by decide +kernel, rfl⟩
set_option maxRecDepth 100000 in
theorem d_M_learner_41 : Dc m_M_learner 41 (.bipush (110)) 2 43 := ⟨by decide +kernel, rfl⟩
set_option maxRecDepth 100000 in
theorem d_M_learner_43 : Dc m_M_learner 43 (.iload_n 3) 1 44 := ⟨by decide +kernel, rfl⟩
set_option maxRecDepth 100000 in
theorem d_M_learner_44 : Dc m_M_learner 44 .imul 1 45 := ⟨by decide +kernel, rfl⟩
set_option maxRecDepth 100000 in
theorem d_M_learner_45 : Dc m_M_learner 45 .iadd 1 46 := ⟨by decide +kernel, rfl⟩
set_option maxRecDepth 100000 in
theorem d_M_learner_46 : Dc m_M_learner 46 (.iload_n 1) 1 47 := ⟨by decide +kernel, rfl⟩
set_option maxRecDepth 100000 in
theorem d_M_learner_47 : Dc m_M_learner 47 .iastore 1 48 := ⟨by decide +kernel, rfl⟩
set_option maxRecDepth 100000 in
theorem d_M_learner_48 : Dc m_M_learner 48 (.aload_n 0) 1 49 := ⟨by decide +kernel, rfl⟩
set_option maxRecDepth 100000 in
theorem d_M_learner_49 : Dc m_M_learner 49 (.getfield 7) 3 52 := ⟨by decide +kernel, rfl⟩
set_option maxRecDepth 100000 in
theorem d_M_learner_52 : Dc m_M_learner 52 (.iconst 2) 1 53 := ⟨by decide +kernel, rfl⟩
set_option maxRecDepth 100000 in
theorem d_M_learner_53 : Dc m_M_learner 53 (.bipush (110)) 2 55 := ⟨by decide +kernel, rfl⟩
set_option maxRecDepth 100000 in
theorem d_M_learner_55 : Dc m_M_learner 55 (.iload_n 3) 1 56 := ⟨by decide +kernel, rfl⟩
set_option maxRecDepth 100000 in
theorem d_M_learner_56 : Dc m_M_learner 56 .imul 1 57 := ⟨by decide +kernel, rfl⟩
set_option maxRecDepth 100000 in
theorem d_M_learner_57 : Dc m_M_learner 57 .iadd 1 58 := ⟨by decide +kernel, rfl⟩
set_option maxRecDepth 100000 in
theorem d_M_learner_58 : Dc m_M_learner 58 (.iconst 1) 1 59 := ⟨by decide +kernel, rfl⟩
set_option maxRecDepth 100000 in
theorem d_M_learner_59 : Dc m_M_learner 59 .iadd 1 60 := ⟨by decide +kernel, rfl⟩
set_option maxRecDepth 100000 in
theorem d_M_learner_60 : Dc m_M_learner 60 (.iload_n 2) 1 61 := ⟨by decide +kernel, rfl⟩
set_option maxRecDepth 100000 in
theorem d_M_learner_61 : Dc m_M_learner 61 .iastore 1 62 := ⟨by decide +kernel, rfl⟩
set_option maxRecDepth 100000 in
theorem d_M_learner_62 : Dc m_M_learner 62 (.iconst 0) 1 63 := ⟨by decide +kernel, rfl⟩
set_option maxRecDepth 100000 in
theorem d_M_learner_63 : Dc m_M_learner 63 (.istore 4) 2 65 := ⟨by decide +kernel, rfl⟩
set_option maxRecDepth 100000 in
theorem d_M_learner_65 : Dc m_M_learner 65 (.iload 4) 2 67 := ⟨by decide +kernel, rfl⟩
set_option maxRecDepth 100000 in
theorem d_M_learner_67 : Dc m_M_learner 67 (.bipush (36)) 2 69 := ⟨by decide +kernel, rfl⟩
set_option maxRecDepth 100000 in
theorem d_M_learner_69 : Dj m_M_learner 69 (.if_icmp .ge) 72 126 := ⟨57, by decide +kernel, rfl, by decide⟩
set_option maxRecDepth 100000 in
theorem d_M_learner_72 : Dc m_M_learner 72 (.aload_n 0) 1 73 := ⟨by decide +kernel, rfl⟩
set_option maxRecDepth 100000 in
theorem d_M_learner_73 : Dc m_M_learner 73 (.getfield 7) 3 76 := ⟨by decide +kernel, rfl⟩
set_option maxRecDepth 100000 in
theorem d_M_learner_76 : Dc m_M_learner 76 (.aload_n 0) 1 77 := ⟨by decide +kernel, rfl⟩
set_option maxRecDepth 100000 in
theorem d_M_learner_77 : Dc m_M_learner 77 (.iload_n 3) 1 78 := ⟨by decide +kernel, rfl⟩
set_option maxRecDepth 100000 in
theorem d_M_learner_78 : Dc m_M_learner 78 (.iload 4) 2 80 := ⟨by decide +kernel, rfl⟩
set_option maxRecDepth 100000 in
theorem d_M_learner_80 : Dc m_M_learner 80 (.invokevirtual 109) 3 83 := ⟨by decide +kernel, rfl⟩
set_option maxRecDepth 100000 in
theorem d_M_learner_83 : Dc m_M_learner 83 (.iload 4) 2 85 := ⟨by decide +kernel, rfl⟩
set_option maxRecDepth 100000 in
theorem d_M_learner_85 : Dc m_M_learner 85 (.invokestatic 98) 3 88 := ⟨by decide +kernel, rfl⟩
set_option maxRecDepth 100000 in
theorem d_M_learner_88 : Dc m_M_learner 88 .iastore 1 89 := ⟨by decide +kernel, rfl⟩
set_option maxRecDepth 100000 in
theorem d_M_learner_89 : Dc m_M_learner 89 (.aload_n 0) 1 90 := ⟨by decide +kernel, rfl⟩
set_option maxRecDepth 100000 in
theorem d_M_learner_90 : Dc m_M_learner 90 (.getfield 7) 3 93 := ⟨by decide +kernel, rfl⟩
set_option maxRecDepth 100000 in
theorem d_M_learner_93 : Dc m_M_learner 93 (.aload_n 0) 1 94 := ⟨by decide +kernel, rfl⟩
set_option maxRecDepth 100000 in
theorem d_M_learner_94 : Dc m_M_learner 94 (.iload_n 3) 1 95 := ⟨by decide +kernel, rfl⟩
set_option maxRecDepth 100000 in
theorem d_M_learner_95 : Dc m_M_learner 95 (.iload 4) 2 97 := ⟨by decide +kernel, rfl⟩
set_option maxRecDepth 100000 in
theorem d_M_learner_97 : Dc m_M_learner 97 (.invokevirtual 109) 3 100 := ⟨by decide +kernel, rfl⟩
set_option maxRecDepth 100000 in
theorem d_M_learner_100 : Dc m_M_learner 100 (.iconst 1) 1 101 := ⟨by decide +kernel, rfl⟩
set_option maxRecDepth 100000 in
theorem d_M_learner_101 : Dc m_M_learner 101 .iadd 1 102 := ⟨by decide +kernel, rfl⟩
set_option maxRecDepth 100000 in
theorem d_M_learner_102 : Dc m_M_learner 102 (.iconst 0) 1 103 := ⟨by decide +kernel, rfl⟩
set_option maxRecDepth 100000 in
theorem d_M_learner_103 : Dc m_M_learner 103 .iastore 1 104 := ⟨by decide +kernel, rfl⟩
set_option maxRecDepth 100000 in
theorem d_M_learner_104 : Dc m_M_learner 104 (.aload_n 0) 1 105 := ⟨by decide +kernel, rfl⟩
set_option maxRecDepth 100000 in
theorem d_M_learner_105 : Dc m_M_learner 105 (.getfield 7) 3 108 := ⟨by decide +kernel, rfl⟩
set_option maxRecDepth 100000 in
theorem d_M_learner_108 : Dc m_M_learner 108 (.aload_n 0) 1 109 := ⟨by decide +kernel, rfl⟩
set_option maxRecDepth 100000 in
theorem d_M_learner_109 : Dc m_M_learner 109 (.iload_n 3) 1 110 := ⟨by decide +kernel, rfl⟩
set_option maxRecDepth 100000 in
theorem d_M_learner_110 : Dc m_M_learner 110 (.iload 4) 2 112 := ⟨by decide +kernel, rfl⟩
set_option maxRecDepth 100000 in
theorem d_M_learner_112 : Dc m_M_learner 112 (.invokevirtual 109) 3 115 := ⟨by decide +kernel, rfl⟩
set_option maxRecDepth 100000 in
theorem d_M_learner_115 : Dc m_M_learner 115 (.iconst 2) 1 116 := ⟨by decide +kernel, rfl⟩
set_option maxRecDepth 100000 in
theorem d_M_learner_116 : Dc m_M_learner 116 .iadd 1 117 := ⟨by decide +kernel, rfl⟩
set_option maxRecDepth 100000 in
theorem d_M_learner_117 : Dc m_M_learner 117 (.bipush (-9)) 2 119 := ⟨by decide +kernel, rfl⟩
set_option maxRecDepth 100000 in
theorem d_M_learner_119 : Dc m_M_learner 119 .iastore 1 120 := ⟨by decide +kernel, rfl⟩
set_option maxRecDepth 100000 in
theorem d_M_learner_120 : Dc m_M_learner 120 (.iinc 4 (1)) 3 123 := ⟨by decide +kernel, rfl⟩
set_option maxRecDepth 100000 in
theorem d_M_learner_123 : Dj m_M_learner 123 .goto 126 65 := ⟨-58, by decide +kernel, rfl, by decide⟩
set_option maxRecDepth 100000 in
theorem d_M_learner_126 : Dc m_M_learner 126 (.aload_n 0) 1 127 := ⟨by decide +kernel, rfl⟩
set_option maxRecDepth 100000 in
theorem d_M_learner_127 : Dc m_M_learner 127 (.getfield 7) 3 130 := ⟨by decide +kernel, rfl⟩
set_option maxRecDepth 100000 in
theorem d_M_learner_130 : Dc m_M_learner 130 (.iconst 0) 1 131 := ⟨by decide +kernel, rfl⟩
set_option maxRecDepth 100000 in
theorem d_M_learner_131 : Dc m_M_learner 131 .dup2 1 132 := ⟨by decide +kernel, rfl⟩
set_option maxRecDepth 100000 in
theorem d_M_learner_132 : Dc m_M_learner 132 .iaload 1 133 := ⟨by decide +kernel, rfl⟩
set_option maxRecDepth 100000 in
theorem d_M_learner_133 : Dc m_M_learner 133 (.iconst 1) 1 134 := ⟨by decide +kernel, rfl⟩
set_option maxRecDepth 100000 in
theorem d_M_learner_134 : Dc m_M_learner 134 .iadd 1 135 := ⟨by decide +kernel, rfl⟩
set_option maxRecDepth 100000 in
theorem d_M_learner_135 : Dc m_M_learner 135 .iastore 1 136 := ⟨by decide +kernel, rfl⟩
set_option maxRecDepth 100000 in
theorem d_M_learner_136 : Dc m_M_learner 136 (.iload_n 3) 1 137 := ⟨by decide +kernel, rfl⟩
set_option maxRecDepth 100000 in
theorem d_M_learner_137 : Dc m_M_learner 137 .ireturn 1 138 := ⟨by decide +kernel, rfl⟩
set_option maxRecDepth 100000 in
theorem d_M_firmInAll_0 : Dc m_M_firmInAll 0 (.iconst 0) 1 1 := ⟨by decide +kernel, rfl⟩
set_option maxRecDepth 100000 in
theorem d_M_firmInAll_1 : Dc m_M_firmInAll 1 (.istore_n 2) 1 2 := ⟨by decide +kernel, rfl⟩
set_option maxRecDepth 100000 in
theorem d_M_firmInAll_2 : Dc m_M_firmInAll 2 (.iconst 0) 1 3 := ⟨by decide +kernel, rfl⟩
set_option maxRecDepth 100000 in
theorem d_M_firmInAll_3 : Dc m_M_firmInAll 3 (.istore_n 3) 1 4 := ⟨by decide +kernel, rfl⟩
set_option maxRecDepth 100000 in
theorem d_M_firmInAll_4 : Dc m_M_firmInAll 4 (.iload_n 3) 1 5 := ⟨by decide +kernel, rfl⟩
set_option maxRecDepth 100000 in
theorem d_M_firmInAll_5 : Dc m_M_firmInAll 5 (.bipush (36)) 2 7 := ⟨by decide +kernel, rfl⟩
set_option maxRecDepth 100000 in
theorem d_M_firmInAll_7 : Dj m_M_firmInAll 7 (.if_icmp .ge) 10 25 := ⟨18, by decide +kernel, rfl, by decide⟩
set_option maxRecDepth 100000 in
theorem d_M_firmInAll_10 : Dc m_M_firmInAll 10 (.iload_n 2) 1 11 := ⟨by decide +kernel, rfl⟩
set_option maxRecDepth 100000 in
theorem d_M_firmInAll_11 : Dc m_M_firmInAll 11 (.aload_n 0) 1 12 := ⟨by decide +kernel, rfl⟩
set_option maxRecDepth 100000 in
theorem d_M_firmInAll_12 : Dc m_M_firmInAll 12 (.iload_n 1) 1 13 := ⟨by decide +kernel, rfl⟩
set_option maxRecDepth 100000 in
theorem d_M_firmInAll_13 : Dc m_M_firmInAll 13 (.iload_n 3) 1 14 := ⟨by decide +kernel, rfl⟩
set_option maxRecDepth 100000 in
theorem d_M_firmInAll_14 : Dc m_M_firmInAll 14 (.invokevirtual 112) 3 17 := ⟨by decide +kernel, rfl⟩
set_option maxRecDepth 100000 in
theorem d_M_firmInAll_17 : Dc m_M_firmInAll 17 .iadd 1 18 := ⟨by decide +kernel, rfl⟩
set_option maxRecDepth 100000 in
theorem d_M_firmInAll_18 : Dc m_M_firmInAll 18 (.istore_n 2) 1 19 := ⟨by decide +kernel, rfl⟩
set_option maxRecDepth 100000 in
theorem d_M_firmInAll_19 : Dc m_M_firmInAll 19 (.iinc 3 (1)) 3 22 := ⟨by decide +kernel, rfl⟩
set_option maxRecDepth 100000 in
theorem d_M_firmInAll_22 : Dj m_M_firmInAll 22 .goto 25 4 := ⟨-18, by decide +kernel, rfl, by decide⟩
set_option maxRecDepth 100000 in
theorem d_M_firmInAll_25 : Dc m_M_firmInAll 25 (.iload_n 2) 1 26 := ⟨by decide +kernel, rfl⟩
set_option maxRecDepth 100000 in
theorem d_M_firmInAll_26 : Dc m_M_firmInAll 26 .ireturn 1 27 := ⟨by decide +kernel, rfl⟩
set_option maxRecDepth 100000 in
theorem d_M_learnerOf_0 : Dc m_M_learnerOf 0 (.aload_n 0) 1 1 := ⟨by decide +kernel, rfl⟩
set_option maxRecDepth 100000 in
theorem d_M_learnerOf_1 : Dc m_M_learnerOf 1 (.iload_n 1) 1 2 := ⟨by decide +kernel, rfl⟩
set_option maxRecDepth 100000 in
theorem d_M_learnerOf_2 : Dc m_M_learnerOf 2 (.invokevirtual 115) 3 5 := ⟨by decide +kernel, rfl⟩
set_option maxRecDepth 100000 in
theorem d_M_learnerOf_5 : Dj m_M_learnerOf 5 (.ifCond .eq) 8 17 := ⟨12, by decide +kernel, rfl, by decide⟩
set_option maxRecDepth 100000 in
theorem d_M_learnerOf_8 : Dc m_M_learnerOf 8 (.iload_n 2) 1 9 := ⟨by decide +kernel, rfl⟩
set_option maxRecDepth 100000 in
theorem d_M_learnerOf_9 : Dc m_M_learnerOf 9 (.iconst 0) 1 10 := ⟨by decide +kernel, rfl⟩
set_option maxRecDepth 100000 in
theorem d_M_learnerOf_10 : Dc m_M_learnerOf 10 (.iconst 2) 1 11 := ⟨by decide +kernel, rfl⟩
set_option maxRecDepth 100000 in
theorem d_M_learnerOf_11 : Dc m_M_learnerOf 11 (.invokestatic 72) 3 14 := ⟨by decide +kernel, rfl⟩
set_option maxRecDepth 100000 in
theorem d_M_learnerOf_14 : Dj m_M_learnerOf 14 (.ifCond .ne) 17 19 := ⟨5, by decide +kernel, rfl, by decide⟩
set_option maxRecDepth 100000 in
theorem d_M_learnerOf_17 : Dc m_M_learnerOf 17 (.iconst (-1)) 1 18 := ⟨by decide +kernel, rfl⟩
set_option maxRecDepth 100000 in
theorem d_M_learnerOf_18 : Dc m_M_learnerOf 18 .ireturn 1 19 := ⟨by decide +kernel, rfl⟩
set_option maxRecDepth 100000 in
theorem d_M_learnerOf_19 : Dc m_M_learnerOf 19 (.iload_n 2) 1 20 := ⟨by decide +kernel, rfl⟩
set_option maxRecDepth 100000 in
theorem d_M_learnerOf_20 : Dj m_M_learnerOf 20 (.ifCond .ne) 23 31 := ⟨11, by decide +kernel, rfl, by decide⟩
set_option maxRecDepth 100000 in
theorem d_M_learnerOf_23 : Dc m_M_learnerOf 23 (.aload_n 0) 1 24 := ⟨by decide +kernel, rfl⟩
set_option maxRecDepth 100000 in
theorem d_M_learnerOf_24 : Dc m_M_learnerOf 24 (.iload_n 1) 1 25 := ⟨by decide +kernel, rfl⟩
set_option maxRecDepth 100000 in
theorem d_M_learnerOf_25 : Dc m_M_learnerOf 25 (.invokevirtual 118) 3 28 := ⟨by decide +kernel, rfl⟩
set_option maxRecDepth 100000 in
theorem d_M_learnerOf_28 : Dj m_M_learnerOf 28 .goto 31 49 := ⟨21, by decide +kernel, rfl, by decide⟩
set_option maxRecDepth 100000 in
theorem d_M_learnerOf_31 : Dc m_M_learnerOf 31 (.iload_n 2) 1 32 := ⟨by decide +kernel, rfl⟩
set_option maxRecDepth 100000 in
theorem d_M_learnerOf_32 : Dc m_M_learnerOf 32 (.iconst 1) 1 33 := ⟨by decide +kernel, rfl⟩
set_option maxRecDepth 100000 in
theorem d_M_learnerOf_33 : Dj m_M_learnerOf 33 (.if_icmp .ne) 36 44 := ⟨11, by decide +kernel, rfl, by decide⟩
set_option maxRecDepth 100000 in
theorem d_M_learnerOf_36 : Dc m_M_learnerOf 36 (.aload_n 0) 1 37 := ⟨by decide +kernel, rfl⟩
set_option maxRecDepth 100000 in
theorem d_M_learnerOf_37 : Dc m_M_learnerOf 37 (.iload_n 1) 1 38 := ⟨by decide +kernel, rfl⟩
set_option maxRecDepth 100000 in
theorem d_M_learnerOf_38 : Dc m_M_learnerOf 38 (.invokevirtual 121) 3 41 := ⟨by decide +kernel, rfl⟩
set_option maxRecDepth 100000 in
theorem d_M_learnerOf_41 : Dj m_M_learnerOf 41 .goto 44 49 := ⟨8, by decide +kernel, rfl, by decide⟩
set_option maxRecDepth 100000 in
theorem d_M_learnerOf_44 : Dc m_M_learnerOf 44 (.aload_n 0) 1 45 := ⟨by decide +kernel, rfl⟩
set_option maxRecDepth 100000 in
theorem d_M_learnerOf_45 : Dc m_M_learnerOf 45 (.iload_n 1) 1 46 := ⟨by decide +kernel, rfl⟩
set_option maxRecDepth 100000 in
theorem d_M_learnerOf_46 : Dc m_M_learnerOf 46 (.invokevirtual 124) 3 49 := ⟨by decide +kernel, rfl⟩
set_option maxRecDepth 100000 in
theorem d_M_learnerOf_49 : Dc m_M_learnerOf 49 .ireturn 1 50 := ⟨by decide +kernel, rfl⟩
set_option maxRecDepth 100000 in
theorem d_M_boxOf_0 : Dc m_M_boxOf 0 (.iconst 1) 1 1 := ⟨by decide +kernel, rfl⟩
set_option maxRecDepth 100000 in
theorem d_M_boxOf_1 : Dc m_M_boxOf 1 (.aload_n 0) 1 2 := ⟨by decide +kernel, rfl⟩
set_option maxRecDepth 100000 in
theorem d_M_boxOf_2 : Dc m_M_boxOf 2 (.iload_n 1) 1 3 := ⟨by decide +kernel, rfl⟩
set_option maxRecDepth 100000 in
theorem d_M_boxOf_3 : Dc m_M_boxOf 3 (.iload_n 2) 1 4 := ⟨by decide +kernel, rfl⟩
set_option maxRecDepth 100000 in
theorem d_M_boxOf_4 : Dc m_M_boxOf 4 (.invokevirtual 127) 3 7 := ⟨by decide +kernel, rfl⟩
set_option maxRecDepth 100000 in
theorem d_M_boxOf_7 : Dc m_M_boxOf 7 (.iconst 2) 1 8 := ⟨by decide +kernel, rfl⟩
set_option maxRecDepth 100000 in
theorem d_M_boxOf_8 : Dc m_M_boxOf 8 .idiv 1 9 := ⟨by decide +kernel, rfl⟩
set_option maxRecDepth 100000 in
theorem d_M_boxOf_9 : Dc m_M_boxOf 9 .iadd 1 10 := ⟨by decide +kernel, rfl⟩
set_option maxRecDepth 100000 in
theorem d_M_boxOf_10 : Dc m_M_boxOf 10 (.istore_n 3) 1 11 := ⟨by decide +kernel, rfl⟩
set_option maxRecDepth 100000 in
theorem d_M_boxOf_11 : Dc m_M_boxOf 11 (.iload_n 3) 1 12 := ⟨by decide +kernel, rfl⟩
set_option maxRecDepth 100000 in
theorem d_M_boxOf_12 : Dc m_M_boxOf 12 (.iconst 5) 1 13 := ⟨by decide +kernel, rfl⟩
set_option maxRecDepth 100000 in
theorem d_M_boxOf_13 : Dj m_M_boxOf 13 (.if_icmp .le) 16 20 := ⟨7, by decide +kernel, rfl, by decide⟩
set_option maxRecDepth 100000 in
theorem d_M_boxOf_16 : Dc m_M_boxOf 16 (.iconst 5) 1 17 := ⟨by decide +kernel, rfl⟩
set_option maxRecDepth 100000 in
theorem d_M_boxOf_17 : Dj m_M_boxOf 17 .goto 20 21 := ⟨4, by decide +kernel, rfl, by decide⟩
set_option maxRecDepth 100000 in
theorem d_M_boxOf_20 : Dc m_M_boxOf 20 (.iload_n 3) 1 21 := ⟨by decide +kernel, rfl⟩
set_option maxRecDepth 100000 in
theorem d_M_boxOf_21 : Dc m_M_boxOf 21 .ireturn 1 22 := ⟨by decide +kernel, rfl⟩
set_option maxRecDepth 100000 in
theorem d_M_dueOf_0 : Dc m_M_dueOf 0 (.aload_n 0) 1 1 := ⟨by decide +kernel, rfl⟩
set_option maxRecDepth 100000 in
theorem d_M_dueOf_1 : Dc m_M_dueOf 1 (.iload_n 1) 1 2 := ⟨by decide +kernel, rfl⟩
set_option maxRecDepth 100000 in
theorem d_M_dueOf_2 : Dc m_M_dueOf 2 (.iload_n 2) 1 3 := ⟨by decide +kernel, rfl⟩
set_option maxRecDepth 100000 in
theorem d_M_dueOf_3 : Dc m_M_dueOf 3 (.invokevirtual 130) 3 6 := ⟨by decide +kernel, rfl⟩
set_option maxRecDepth 100000 in
theorem d_M_dueOf_6 : Dj m_M_dueOf 6 (.ifCond .ge) 9 13 := ⟨7, by decide +kernel, rfl, by decide⟩
set_option maxRecDepth 100000 in
theorem d_M_dueOf_9 : Dc m_M_dueOf 9 (.iconst 0) 1 10 := ⟨by decide +kernel, rfl⟩
set_option maxRecDepth 100000 in
theorem d_M_dueOf_10 : Dj m_M_dueOf 10 .goto 13 30 := ⟨20, by decide +kernel, rfl, by decide⟩
set_option maxRecDepth 100000 in
theorem d_M_dueOf_13 : Dc m_M_dueOf 13 (.aload_n 0) 1 14 := ⟨by decide +kernel, rfl⟩
set_option maxRecDepth 100000 in
theorem d_M_dueOf_14 : Dc m_M_dueOf 14 (.iload_n 1) 1 15 := ⟨by decide +kernel, rfl⟩
set_option maxRecDepth 100000 in
theorem d_M_dueOf_15 : Dc m_M_dueOf 15 (.iload_n 2) 1 16 := ⟨by decide +kernel, rfl⟩
set_option maxRecDepth 100000 in
theorem d_M_dueOf_16 : Dc m_M_dueOf 16 (.invokevirtual 130) 3 19 := ⟨by decide +kernel, rfl⟩
set_option maxRecDepth 100000 in
theorem d_M_dueOf_19 : Dc m_M_dueOf 19 (.iconst 1) 1 20 := ⟨by decide +kernel, rfl⟩
set_option maxRecDepth 100000 in
theorem d_M_dueOf_20 : Dc m_M_dueOf 20 (.aload_n 0) 1 21 := ⟨by decide +kernel, rfl⟩
set_option maxRecDepth 100000 in
theorem d_M_dueOf_21 : Dc m_M_dueOf 21 (.iload_n 1) 1 22 := ⟨by decide +kernel, rfl⟩
set_option maxRecDepth 100000 in
theorem d_M_dueOf_22 : Dc m_M_dueOf 22 (.iload_n 2) 1 23 := ⟨by decide +kernel, rfl⟩
set_option maxRecDepth 100000 in
theorem d_M_dueOf_23 : Dc m_M_dueOf 23 (.invokevirtual 133) 3 26 := ⟨by decide +kernel, rfl⟩
set_option maxRecDepth 100000 in
theorem d_M_dueOf_26 : Dc m_M_dueOf 26 (.iconst 1) 1 27 := ⟨by decide +kernel, rfl⟩
set_option maxRecDepth 100000 in
theorem d_M_dueOf_27 : Dc m_M_dueOf 27 .isub 1 28 := ⟨by decide +kernel, rfl⟩
set_option maxRecDepth 100000 in
theorem d_M_dueOf_28 : Dc m_M_dueOf 28 .ishl 1 29 := ⟨by decide +kernel, rfl⟩
set_option maxRecDepth 100000 in
theorem d_M_dueOf_29 : Dc m_M_dueOf 29 .iadd 1 30 := ⟨by decide +kernel, rfl⟩
set_option maxRecDepth 100000 in
theorem d_M_dueOf_30 : Dc m_M_dueOf 30 .ireturn 1 31 := ⟨by decide +kernel, rfl⟩
set_option maxRecDepth 100000 in
theorem d_M_head_0 : Dc m_M_head 0 (.aload_n 0) 1 1 := ⟨by decide +kernel, rfl⟩
set_option maxRecDepth 100000 in
theorem d_M_head_1 : Dc m_M_head 1 (.iload_n 1) 1 2 := ⟨by decide +kernel, rfl⟩
set_option maxRecDepth 100000 in
theorem d_M_head_2 : Dc m_M_head 2 (.invokevirtual 115) 3 5 := ⟨by decide +kernel, rfl⟩
set_option maxRecDepth 100000 in
theorem d_M_head_5 : Dj m_M_head 5 (.ifCond .eq) 8 24 := ⟨19, by decide +kernel, rfl, by decide⟩
set_option maxRecDepth 100000 in
theorem d_M_head_8 : Dc m_M_head 8 (.iload_n 2) 1 9 := ⟨by decide +kernel, rfl⟩
set_option maxRecDepth 100000 in
theorem d_M_head_9 : Dc m_M_head 9 (.invokestatic 91) 3 12 := ⟨by decide +kernel, rfl⟩
set_option maxRecDepth 100000 in
theorem d_M_head_12 : Dj m_M_head 12 (.ifCond .eq) 15 24 := ⟨12, by decide +kernel, rfl, by decide⟩
set_option maxRecDepth 100000 in
theorem d_M_head_15 : Dc m_M_head 15 (.iload_n 3) 1 16 := ⟨by decide +kernel, rfl⟩
set_option maxRecDepth 100000 in
theorem d_M_head_16 : Dc m_M_head 16 (.iconst 0) 1 17 := ⟨by decide +kernel, rfl⟩
set_option maxRecDepth 100000 in
theorem d_M_head_17 : Dc m_M_head 17 (.iconst 4) 1 18 := ⟨by decide +kernel, rfl⟩
set_option maxRecDepth 100000 in
theorem d_M_head_18 : Dc m_M_head 18 (.invokestatic 72) 3 21 := ⟨by decide +kernel, rfl⟩
set_option maxRecDepth 100000 in
theorem d_M_head_21 : Dj m_M_head 21 (.ifCond .ne) 24 26 := ⟨5, by decide +kernel, rfl, by decide⟩
set_option maxRecDepth 100000 in
theorem d_M_head_24 : Dc m_M_head 24 (.iconst (-1)) 1 25 := ⟨by decide +kernel, rfl⟩
set_option maxRecDepth 100000 in
theorem d_M_head_25 : Dc m_M_head 25 .ireturn 1 26 := ⟨by decide +kernel, rfl⟩
set_option maxRecDepth 100000 in
theorem d_M_head_26 : Dc m_M_head 26 (.iload_n 3) 1 27 := ⟨by decide +kernel, rfl⟩
set_option maxRecDepth 100000 in
theorem d_M_head_27 : Dc m_M_head 27 (.iconst 3) 1 28 := ⟨by decide +kernel, rfl⟩
set_option maxRecDepth 100000 in
theorem d_M_head_28 : Dj m_M_head 28 (.if_icmp .ge) 31 47 := ⟨19, by decide +kernel, rfl, by decide⟩
set_option maxRecDepth 100000 in
theorem d_M_head_31 : Dc m_M_head 31 (.aload_n 0) 1 32 := ⟨by decide +kernel, rfl⟩
set_option maxRecDepth 100000 in
theorem d_M_head_32 : Dc m_M_head 32 (.getfield 7) 3 35 := ⟨by decide +kernel, rfl⟩
set_option maxRecDepth 100000 in
theorem d_M_head_35 : Dc m_M_head 35 (.aload_n 0) 1 36 := ⟨by decide +kernel, rfl⟩
set_option maxRecDepth 100000 in
theorem d_M_head_36 : Dc m_M_head 36 (.iload_n 1) 1 37 := ⟨by decide +kernel, rfl⟩
set_option maxRecDepth 100000 in
theorem d_M_head_37 : Dc m_M_head 37 (.iload_n 2) 1 38 := ⟨by decide +kernel, rfl⟩
set_option maxRecDepth 100000 in
theorem d_M_head_38 : Dc m_M_head 38 (.invokevirtual 109) 3 41 := ⟨by decide +kernel, rfl⟩
set_option maxRecDepth 100000 in
theorem d_M_head_41 : Dc m_M_head 41 (.iload_n 3) 1 42 := ⟨by decide +kernel, rfl⟩
set_option maxRecDepth 100000 in
theorem d_M_head_42 : Dc m_M_head 42 .iadd 1 43 := ⟨by decide +kernel, rfl⟩
set_option maxRecDepth 100000 in
theorem d_M_head_43 : Dc m_M_head 43 .iaload 1 44 := ⟨by decide +kernel, rfl⟩
set_option maxRecDepth 100000 in
theorem d_M_head_44 : Dj m_M_head 44 .goto 47 67 := ⟨23, by decide +kernel, rfl, by decide⟩
set_option maxRecDepth 100000 in
theorem d_M_head_47 : Dc m_M_head 47 (.iload_n 3) 1 48 := ⟨by decide +kernel, rfl⟩
set_option maxRecDepth 100000 in
theorem d_M_head_48 : Dc m_M_head 48 (.iconst 3) 1 49 := ⟨by decide +kernel, rfl⟩
set_option maxRecDepth 100000 in
theorem d_M_head_49 : Dj m_M_head 49 (.if_icmp .ne) 52 61 := ⟨12, by decide +kernel, rfl, by decide⟩
set_option maxRecDepth 100000 in
theorem d_M_head_52 : Dc m_M_head 52 (.aload_n 0) 1 53 := ⟨by decide +kernel, rfl⟩
set_option maxRecDepth 100000 in
theorem d_M_head_53 : Dc m_M_head 53 (.iload_n 1) 1 54 := ⟨by decide +kernel, rfl⟩
set_option maxRecDepth 100000 in
theorem d_M_head_54 : Dc m_M_head 54 (.iload_n 2) 1 55 := ⟨by decide +kernel, rfl⟩
set_option maxRecDepth 100000 in
theorem d_M_head_55 : Dc m_M_head 55 (.invokevirtual 133) 3 58 := ⟨by decide +kernel, rfl⟩
set_option maxRecDepth 100000 in
theorem d_M_head_58 : Dj m_M_head 58 .goto 61 67 := ⟨9, by decide +kernel, rfl, by decide⟩
set_option maxRecDepth 100000 in
theorem d_M_head_61 : Dc m_M_head 61 (.aload_n 0) 1 62 := ⟨by decide +kernel, rfl⟩
set_option maxRecDepth 100000 in
theorem d_M_head_62 : Dc m_M_head 62 (.iload_n 1) 1 63 := ⟨by decide +kernel, rfl⟩
set_option maxRecDepth 100000 in
theorem d_M_head_63 : Dc m_M_head 63 (.iload_n 2) 1 64 := ⟨by decide +kernel, rfl⟩
set_option maxRecDepth 100000 in
theorem d_M_head_64 : Dc m_M_head 64 (.invokevirtual 136) 3 67 := ⟨by decide +kernel, rfl⟩
set_option maxRecDepth 100000 in
theorem d_M_head_67 : Dc m_M_head 67 .ireturn 1 68 := ⟨by decide +kernel, rfl⟩
set_option maxRecDepth 100000 in
theorem d_M_firm_0 : Dc m_M_firm 0 (.aload_n 0) 1 1 := ⟨by decide +kernel, rfl⟩
set_option maxRecDepth 100000 in
theorem d_M_firm_1 : Dc m_M_firm 1 (.iload_n 1) 1 2 := ⟨by decide +kernel, rfl⟩
set_option maxRecDepth 100000 in
theorem d_M_firm_2 : Dc m_M_firm 2 (.invokevirtual 115) 3 5 := ⟨by decide +kernel, rfl⟩
set_option maxRecDepth 100000 in
theorem d_M_firm_5 : Dj m_M_firm 5 (.ifCond .eq) 8 25 := ⟨20, by decide +kernel, rfl, by decide⟩
set_option maxRecDepth 100000 in
theorem d_M_firm_8 : Dc m_M_firm 8 (.iload_n 2) 1 9 := ⟨by decide +kernel, rfl⟩
set_option maxRecDepth 100000 in
theorem d_M_firm_9 : Dc m_M_firm 9 (.invokestatic 91) 3 12 := ⟨by decide +kernel, rfl⟩
set_option maxRecDepth 100000 in
theorem d_M_firm_12 : Dj m_M_firm 12 (.ifCond .eq) 15 25 := ⟨13, by decide +kernel, rfl, by decide⟩
set_option maxRecDepth 100000 in
theorem d_M_firm_15 : Dc m_M_firm 15 (.iload_n 3) 1 16 := ⟨by decide +kernel, rfl⟩
set_option maxRecDepth 100000 in
theorem d_M_firm_16 : Dc m_M_firm 16 (.iconst 0) 1 17 := ⟨by decide +kernel, rfl⟩
set_option maxRecDepth 100000 in
theorem d_M_firm_17 : Dc m_M_firm 17 (.bipush (100)) 2 19 := ⟨by decide +kernel, rfl⟩
set_option maxRecDepth 100000 in
theorem d_M_firm_19 : Dc m_M_firm 19 (.invokestatic 72) 3 22 := ⟨by decide +kernel, rfl⟩
set_option maxRecDepth 100000 in
theorem d_M_firm_22 : Dj m_M_firm 22 (.ifCond .ne) 25 27 := ⟨5, by decide +kernel, rfl, by decide⟩
set_option maxRecDepth 100000 in
theorem d_M_firm_25 : Dc m_M_firm 25 (.iconst (-1)) 1 26 := ⟨by decide +kernel, rfl⟩
set_option maxRecDepth 100000 in
theorem d_M_firm_26 : Dc m_M_firm 26 .ireturn 1 27 := ⟨by decide +kernel, rfl⟩
set_option maxRecDepth 100000 in
theorem d_M_firm_27 : Dc m_M_firm 27 (.aload_n 0) 1 28 := ⟨by decide +kernel, rfl⟩
set_option maxRecDepth 100000 in
theorem d_M_firm_28 : Dc m_M_firm 28 (.iload_n 1) 1 29 := ⟨by decide +kernel, rfl⟩
set_option maxRecDepth 100000 in
theorem d_M_firm_29 : Dc m_M_firm 29 (.iload_n 2) 1 30 := ⟨by decide +kernel, rfl⟩
set_option maxRecDepth 100000 in
theorem d_M_firm_30 : Dc m_M_firm 30 (.invokevirtual 112) 3 33 := ⟨by decide +kernel, rfl⟩
set_option maxRecDepth 100000 in
theorem d_M_firm_33 : Dc m_M_firm 33 (.istore 4) 2 35 := ⟨by decide +kernel, rfl⟩
set_option maxRecDepth 100000 in
theorem d_M_firm_35 : Dc m_M_firm 35 (.aload_n 0) 1 36 := ⟨by decide +kernel, rfl⟩
set_option maxRecDepth 100000 in
theorem d_M_firm_36 : Dc m_M_firm 36 (.getfield 7) 3 39 := ⟨by decide +kernel, rfl⟩
set_option maxRecDepth 100000 in
theorem d_M_firm_39 : Dc m_M_firm 39 (.aload_n 0) 1 40 := ⟨by decide +kernel, rfl⟩
set_option maxRecDepth 100000 in
theorem d_M_firm_40 : Dc m_M_firm 40 (.iload_n 1) 1 41 := ⟨by decide +kernel, rfl⟩
set_option maxRecDepth 100000 in
theorem d_M_firm_41 : Dc m_M_firm 41 (.iload_n 2) 1 42 := ⟨by decide +kernel, rfl⟩
set_option maxRecDepth 100000 in
theorem d_M_firm_42 : Dc m_M_firm 42 (.invokevirtual 109) 3 45 := ⟨by decide +kernel, rfl⟩
set_option maxRecDepth 100000 in
theorem d_M_firm_45 : Dc m_M_firm 45 (.iload_n 3) 1 46 := ⟨by decide +kernel, rfl⟩
set_option maxRecDepth 100000 in
theorem d_M_firm_46 : Dc m_M_firm 46 .iastore 1 47 := ⟨by decide +kernel, rfl⟩
set_option maxRecDepth 100000 in
theorem d_M_firm_47 : Dc m_M_firm 47 (.iload 4) 2 49 := ⟨by decide +kernel, rfl⟩
set_option maxRecDepth 100000 in
theorem d_M_firm_49 : Dc m_M_firm 49 .ireturn 1 50 := ⟨by decide +kernel, rfl⟩
set_option maxRecDepth 100000 in
theorem d_M_rights_0 : Dc m_M_rights 0 (.aload_n 0) 1 1 := ⟨by decide +kernel, rfl⟩
set_option maxRecDepth 100000 in
theorem d_M_rights_1 : Dc m_M_rights 1 (.iload_n 1) 1 2 := ⟨by decide +kernel, rfl⟩
set_option maxRecDepth 100000 in
theorem d_M_rights_2 : Dc m_M_rights 2 (.invokevirtual 115) 3 5 := ⟨by decide +kernel, rfl⟩
set_option maxRecDepth 100000 in
theorem d_M_rights_5 : Dj m_M_rights 5 (.ifCond .eq) 8 25 := ⟨20, by decide +kernel, rfl, by decide⟩
set_option maxRecDepth 100000 in
theorem d_M_rights_8 : Dc m_M_rights 8 (.iload_n 2) 1 9 := ⟨by decide +kernel, rfl⟩
set_option maxRecDepth 100000 in
theorem d_M_rights_9 : Dc m_M_rights 9 (.invokestatic 91) 3 12 := ⟨by decide +kernel, rfl⟩
set_option maxRecDepth 100000 in
theorem d_M_rights_12 : Dj m_M_rights 12 (.ifCond .eq) 15 25 := ⟨13, by decide +kernel, rfl, by decide⟩
set_option maxRecDepth 100000 in
theorem d_M_rights_15 : Dc m_M_rights 15 (.iload_n 3) 1 16 := ⟨by decide +kernel, rfl⟩
set_option maxRecDepth 100000 in
theorem d_M_rights_16 : Dc m_M_rights 16 (.iconst 0) 1 17 := ⟨by decide +kernel, rfl⟩
set_option maxRecDepth 100000 in
theorem d_M_rights_17 : Dc m_M_rights 17 (.bipush (9)) 2 19 := ⟨by decide +kernel, rfl⟩
set_option maxRecDepth 100000 in
theorem d_M_rights_19 : Dc m_M_rights 19 (.invokestatic 72) 3 22 := ⟨by decide +kernel, rfl⟩
set_option maxRecDepth 100000 in
theorem d_M_rights_22 : Dj m_M_rights 22 (.ifCond .ne) 25 27 := ⟨5, by decide +kernel, rfl, by decide⟩
set_option maxRecDepth 100000 in
theorem d_M_rights_25 : Dc m_M_rights 25 (.iconst (-1)) 1 26 := ⟨by decide +kernel, rfl⟩
set_option maxRecDepth 100000 in
theorem d_M_rights_26 : Dc m_M_rights 26 .ireturn 1 27 := ⟨by decide +kernel, rfl⟩
set_option maxRecDepth 100000 in
theorem d_M_rights_27 : Dc m_M_rights 27 (.aload_n 0) 1 28 := ⟨by decide +kernel, rfl⟩
set_option maxRecDepth 100000 in
theorem d_M_rights_28 : Dc m_M_rights 28 (.iload_n 1) 1 29 := ⟨by decide +kernel, rfl⟩
set_option maxRecDepth 100000 in
theorem d_M_rights_29 : Dc m_M_rights 29 (.iload_n 2) 1 30 := ⟨by decide +kernel, rfl⟩
set_option maxRecDepth 100000 in
theorem d_M_rights_30 : Dc m_M_rights 30 (.invokevirtual 127) 3 33 := ⟨by decide +kernel, rfl⟩
set_option maxRecDepth 100000 in
theorem d_M_rights_33 : Dc m_M_rights 33 (.istore 4) 2 35 := ⟨by decide +kernel, rfl⟩
set_option maxRecDepth 100000 in
theorem d_M_rights_35 : Dc m_M_rights 35 (.aload_n 0) 1 36 := ⟨by decide +kernel, rfl⟩
set_option maxRecDepth 100000 in
theorem d_M_rights_36 : Dc m_M_rights 36 (.getfield 7) 3 39 := ⟨by decide +kernel, rfl⟩
set_option maxRecDepth 100000 in
theorem d_M_rights_39 : Dc m_M_rights 39 (.aload_n 0) 1 40 := ⟨by decide +kernel, rfl⟩
set_option maxRecDepth 100000 in
theorem d_M_rights_40 : Dc m_M_rights 40 (.iload_n 1) 1 41 := ⟨by decide +kernel, rfl⟩
set_option maxRecDepth 100000 in
theorem d_M_rights_41 : Dc m_M_rights 41 (.iload_n 2) 1 42 := ⟨by decide +kernel, rfl⟩
set_option maxRecDepth 100000 in
theorem d_M_rights_42 : Dc m_M_rights 42 (.invokevirtual 109) 3 45 := ⟨by decide +kernel, rfl⟩
set_option maxRecDepth 100000 in
theorem d_M_rights_45 : Dc m_M_rights 45 (.iconst 1) 1 46 := ⟨by decide +kernel, rfl⟩
set_option maxRecDepth 100000 in
theorem d_M_rights_46 : Dc m_M_rights 46 .iadd 1 47 := ⟨by decide +kernel, rfl⟩
set_option maxRecDepth 100000 in
theorem d_M_rights_47 : Dc m_M_rights 47 (.iload_n 3) 1 48 := ⟨by decide +kernel, rfl⟩
set_option maxRecDepth 100000 in
theorem d_M_rights_48 : Dc m_M_rights 48 .iastore 1 49 := ⟨by decide +kernel, rfl⟩
set_option maxRecDepth 100000 in
theorem d_M_rights_49 : Dc m_M_rights 49 (.iload 4) 2 51 := ⟨by decide +kernel, rfl⟩
set_option maxRecDepth 100000 in
theorem d_M_rights_51 : Dc m_M_rights 51 .ireturn 1 52 := ⟨by decide +kernel, rfl⟩
set_option maxRecDepth 100000 in
theorem d_M_set_0 : Dc m_M_set 0 (.iload_n 1) 1 1 := ⟨by decide +kernel, rfl⟩
set_option maxRecDepth 100000 in
theorem d_M_set_1 : Dc m_M_set 1 (.iconst 0) 1 2 := ⟨by decide +kernel, rfl⟩
set_option maxRecDepth 100000 in
theorem d_M_set_2 : Dc m_M_set 2 (.iconst 2) 1 3 := ⟨by decide +kernel, rfl⟩
set_option maxRecDepth 100000 in
theorem d_M_set_3 : Dc m_M_set 3 (.invokestatic 72) 3 6 := ⟨by decide +kernel, rfl⟩
set_option maxRecDepth 100000 in
theorem d_M_set_6 : Dj m_M_set 6 (.ifCond .eq) 9 13 := ⟨7, by decide +kernel, rfl, by decide⟩
set_option maxRecDepth 100000 in
theorem d_M_set_9 : Dc m_M_set 9 (.iload_n 1) 1 10 := ⟨by decide +kernel, rfl⟩
set_option maxRecDepth 100000 in
theorem d_M_set_10 : Dj m_M_set 10 .goto 13 14 := ⟨4, by decide +kernel, rfl, by decide⟩
set_option maxRecDepth 100000 in
theorem d_M_set_13 : Dc m_M_set 13 (.iconst 0) 1 14 := ⟨by decide +kernel, rfl⟩
set_option maxRecDepth 100000 in
theorem d_M_set_14 : Dc m_M_set 14 (.istore_n 3) 1 15 := ⟨by decide +kernel, rfl⟩
set_option maxRecDepth 100000 in
theorem d_M_set_15 : Dc m_M_set 15 (.iload_n 3) 1 16 := ⟨by decide +kernel, rfl⟩
set_option maxRecDepth 100000 in
theorem d_M_set_16 : Dc m_M_set 16 (.iload_n 1) 1 17 := ⟨by decide +kernel, rfl⟩
set_option maxRecDepth 100000 in
theorem d_M_set_17 : Dj m_M_set 17 (.if_icmp .ne) 20 34 := ⟨17, by decide +kernel, rfl, by decide⟩
set_option maxRecDepth 100000 in
theorem d_M_set_20 : Dc m_M_set 20 (.iload_n 2) 1 21 := ⟨by decide +kernel, rfl⟩
set_option maxRecDepth 100000 in
theorem d_M_set_21 : Dc m_M_set 21 (.iconst 0) 1 22 := ⟨by decide +kernel, rfl⟩
set_option maxRecDepth 100000 in
theorem d_M_set_22 : Dc m_M_set 22 (.aload_n 0) 1 23 := ⟨by decide +kernel, rfl⟩
set_option maxRecDepth 100000 in
theorem d_M_set_23 : Dc m_M_set 23 (.getfield 16) 3 26 := ⟨by decide +kernel, rfl⟩
set_option maxRecDepth 100000 in
theorem d_M_set_26 : Dc m_M_set 26 (.iload_n 3) 1 27 := ⟨by decide +kernel, rfl⟩
set_option maxRecDepth 100000 in
theorem d_M_set_27 : Dc m_M_set 27 .iaload 1 28 := ⟨by decide +kernel, rfl⟩
set_option maxRecDepth 100000 in
theorem d_M_set_28 : Dc m_M_set 28 (.invokestatic 72) 3 31 := ⟨by decide +kernel, rfl⟩
set_option maxRecDepth 100000 in
theorem d_M_set_31 : Dj m_M_set 31 (.ifCond .ne) 34 36 := ⟨5, by decide +kernel, rfl, by decide⟩
set_option maxRecDepth 100000 in
theorem d_M_set_34 : Dc m_M_set 34 (.iconst (-1)) 1 35 := ⟨by decide +kernel, rfl⟩
set_option maxRecDepth 100000 in
theorem d_M_set_35 : Dc m_M_set 35 .ireturn 1 36 := ⟨by decide +kernel, rfl⟩
set_option maxRecDepth 100000 in
theorem d_M_set_36 : Dc m_M_set 36 (.aload_n 0) 1 37 := ⟨by decide +kernel, rfl⟩
set_option maxRecDepth 100000 in
theorem d_M_set_37 : Dc m_M_set 37 (.getfield 13) 3 40 := ⟨by decide +kernel, rfl⟩
set_option maxRecDepth 100000 in
theorem d_M_set_40 : Dc m_M_set 40 (.iload_n 1) 1 41 := ⟨by decide +kernel, rfl⟩
set_option maxRecDepth 100000 in
theorem d_M_set_41 : Dc m_M_set 41 .iaload 1 42 := ⟨by decide +kernel, rfl⟩
set_option maxRecDepth 100000 in
theorem d_M_set_42 : Dc m_M_set 42 (.istore 4) 2 44 := ⟨by decide +kernel, rfl⟩
set_option maxRecDepth 100000 in
theorem d_M_set_44 : Dc m_M_set 44 (.aload_n 0) 1 45 := ⟨by decide +kernel, rfl⟩
set_option maxRecDepth 100000 in
theorem d_M_set_45 : Dc m_M_set 45 (.getfield 13) 3 48 := ⟨by decide +kernel, rfl⟩
set_option maxRecDepth 100000 in
theorem d_M_set_48 : Dc m_M_set 48 (.iload_n 1) 1 49 := ⟨by decide +kernel, rfl⟩
set_option maxRecDepth 100000 in
theorem d_M_set_49 : Dc m_M_set 49 (.iload_n 2) 1 50 := ⟨by decide +kernel, rfl⟩
set_option maxRecDepth 100000 in
theorem d_M_set_50 : Dc m_M_set 50 .iastore 1 51 := ⟨by decide +kernel, rfl⟩
set_option maxRecDepth 100000 in
theorem d_M_set_51 : Dc m_M_set 51 (.iload 4) 2 53 := ⟨by decide +kernel, rfl⟩
set_option maxRecDepth 100000 in
theorem d_M_set_53 : Dc m_M_set 53 .ireturn 1 54 := ⟨by decide +kernel, rfl⟩
set_option maxRecDepth 100000 in
theorem d_M_day_0 : Dc m_M_day 0 (.aload_n 0) 1 1 := ⟨by decide +kernel, rfl⟩
set_option maxRecDepth 100000 in
theorem d_M_day_1 : Dc m_M_day 1 (.getfield 7) 3 4 := ⟨by decide +kernel, rfl⟩
set_option maxRecDepth 100000 in
theorem d_M_day_4 : Dc m_M_day 4 (.iconst 1) 1 5 := ⟨by decide +kernel, rfl⟩
set_option maxRecDepth 100000 in
theorem d_M_day_5 : Dc m_M_day 5 .iaload 1 6 := ⟨by decide +kernel, rfl⟩
set_option maxRecDepth 100000 in
theorem d_M_day_6 : Dc m_M_day 6 .ireturn 1 7 := ⟨by decide +kernel, rfl⟩
set_option maxRecDepth 100000 in
theorem d_M_kept_0 : Dc m_M_kept 0 (.iload_n 0) 1 1 := ⟨by decide +kernel, rfl⟩
set_option maxRecDepth 100000 in
theorem d_M_kept_1 : Dj m_M_kept 1 (.ifCond .ge) 4 8 := ⟨7, by decide +kernel, rfl, by decide⟩
set_option maxRecDepth 100000 in
theorem d_M_kept_4 : Dc m_M_kept 4 (.iconst 0) 1 5 := ⟨by decide +kernel, rfl⟩
set_option maxRecDepth 100000 in
theorem d_M_kept_5 : Dj m_M_kept 5 .goto 8 20 := ⟨15, by decide +kernel, rfl, by decide⟩
set_option maxRecDepth 100000 in
theorem d_M_kept_8 : Dc m_M_kept 8 (.iload_n 0) 1 9 := ⟨by decide +kernel, rfl⟩
set_option maxRecDepth 100000 in
theorem d_M_kept_9 : Dc m_M_kept 9 (.bipush (100)) 2 11 := ⟨by decide +kernel, rfl⟩
set_option maxRecDepth 100000 in
theorem d_M_kept_11 : Dj m_M_kept 11 (.if_icmp .le) 14 19 := ⟨8, by decide +kernel, rfl, by decide⟩
set_option maxRecDepth 100000 in
theorem d_M_kept_14 : Dc m_M_kept 14 (.bipush (100)) 2 16 := ⟨by decide +kernel, rfl⟩
set_option maxRecDepth 100000 in
theorem d_M_kept_16 : Dj m_M_kept 16 .goto 19 20 := ⟨4, by decide +kernel, rfl, by decide⟩
set_option maxRecDepth 100000 in
theorem d_M_kept_19 : Dc m_M_kept 19 (.iload_n 0) 1 20 := ⟨by decide +kernel, rfl⟩
set_option maxRecDepth 100000 in
theorem d_M_kept_20 : Dc m_M_kept 20 .ireturn 1 21 := ⟨by decide +kernel, rfl⟩
set_option maxRecDepth 100000 in
theorem d_M_feelOf_0 : Dc m_M_feelOf 0 (.aload_n 0) 1 1 := ⟨by decide +kernel, rfl⟩
set_option maxRecDepth 100000 in
theorem d_M_feelOf_1 : Dc m_M_feelOf 1 (.iload_n 1) 1 2 := ⟨by decide +kernel, rfl⟩
set_option maxRecDepth 100000 in
theorem d_M_feelOf_2 : Dc m_M_feelOf 2 (.iload_n 2) 1 3 := ⟨by decide +kernel, rfl⟩
set_option maxRecDepth 100000 in
theorem d_M_feelOf_3 : Dc m_M_feelOf 3 (.invokevirtual 112) 3 6 := ⟨by decide +kernel, rfl⟩
set_option maxRecDepth 100000 in
theorem d_M_feelOf_6 : Dc m_M_feelOf 6 (.istore 4) 2 8 := ⟨by decide +kernel, rfl⟩
set_option maxRecDepth 100000 in
theorem d_M_feelOf_8 : Dc m_M_feelOf 8 (.aload_n 0) 1 9 := ⟨by decide +kernel, rfl⟩
set_option maxRecDepth 100000 in
theorem d_M_feelOf_9 : Dc m_M_feelOf 9 (.iload_n 1) 1 10 := ⟨by decide +kernel, rfl⟩
set_option maxRecDepth 100000 in
theorem d_M_feelOf_10 : Dc m_M_feelOf 10 (.invokevirtual 118) 3 13 := ⟨by decide +kernel, rfl⟩
set_option maxRecDepth 100000 in
theorem d_M_feelOf_13 : Lsw m_M_feelOf 13 [(3, 40), (4, 62)] 74 := ⟨61, [(3, 27), (4, 49)], 27, by decide +kernel, by decide, by decide +kernel, by decide +kernel⟩
set_option maxRecDepth 100000 in
theorem d_M_feelOf_40 : Dc m_M_feelOf 40 (.iload_n 3) 1 41 := ⟨by decide +kernel, rfl⟩
set_option maxRecDepth 100000 in
theorem d_M_feelOf_41 : Dc m_M_feelOf 41 (.iconst 3) 1 42 := ⟨by decide +kernel, rfl⟩
set_option maxRecDepth 100000 in
theorem d_M_feelOf_42 : Dj m_M_feelOf 42 (.if_icmp .ge) 45 59 := ⟨17, by decide +kernel, rfl, by decide⟩
set_option maxRecDepth 100000 in
theorem d_M_feelOf_45 : Dc m_M_feelOf 45 (.iload 4) 2 47 := ⟨by decide +kernel, rfl⟩
set_option maxRecDepth 100000 in
theorem d_M_feelOf_47 : Dc m_M_feelOf 47 (.aload_n 0) 1 48 := ⟨by decide +kernel, rfl⟩
set_option maxRecDepth 100000 in
theorem d_M_feelOf_48 : Dc m_M_feelOf 48 (.iload_n 1) 1 49 := ⟨by decide +kernel, rfl⟩
set_option maxRecDepth 100000 in
theorem d_M_feelOf_49 : Dc m_M_feelOf 49 (.invokevirtual 121) 3 52 := ⟨by decide +kernel, rfl⟩
set_option maxRecDepth 100000 in
theorem d_M_feelOf_52 : Dc m_M_feelOf 52 .isub 1 53 := ⟨by decide +kernel, rfl⟩
set_option maxRecDepth 100000 in
theorem d_M_feelOf_53 : Dc m_M_feelOf 53 (.invokestatic 139) 3 56 := ⟨by decide +kernel, rfl⟩
set_option maxRecDepth 100000 in
theorem d_M_feelOf_56 : Dj m_M_feelOf 56 .goto 59 61 := ⟨5, by decide +kernel, rfl, by decide⟩
set_option maxRecDepth 100000 in
theorem d_M_feelOf_59 : Dc m_M_feelOf 59 (.iload 4) 2 61 := ⟨by decide +kernel, rfl⟩
set_option maxRecDepth 100000 in
theorem d_M_feelOf_61 : Dc m_M_feelOf 61 .ireturn 1 62 := ⟨by decide +kernel, rfl⟩
set_option maxRecDepth 100000 in
theorem d_M_feelOf_62 : Dc m_M_feelOf 62 (.iload 4) 2 64 := ⟨by decide +kernel, rfl⟩
set_option maxRecDepth 100000 in
theorem d_M_feelOf_64 : Dc m_M_feelOf 64 (.aload_n 0) 1 65 := ⟨by decide +kernel, rfl⟩
set_option maxRecDepth 100000 in
theorem d_M_feelOf_65 : Dc m_M_feelOf 65 (.iload_n 1) 1 66 := ⟨by decide +kernel, rfl⟩
set_option maxRecDepth 100000 in
theorem d_M_feelOf_66 : Dc m_M_feelOf 66 (.invokevirtual 121) 3 69 := ⟨by decide +kernel, rfl⟩
set_option maxRecDepth 100000 in
theorem d_M_feelOf_69 : Dc m_M_feelOf 69 .iadd 1 70 := ⟨by decide +kernel, rfl⟩
set_option maxRecDepth 100000 in
theorem d_M_feelOf_70 : Dc m_M_feelOf 70 (.invokestatic 139) 3 73 := ⟨by decide +kernel, rfl⟩
set_option maxRecDepth 100000 in
theorem d_M_feelOf_73 : Dc m_M_feelOf 73 .ireturn 1 74 := ⟨by decide +kernel, rfl⟩
set_option maxRecDepth 100000 in
theorem d_M_feelOf_74 : Dc m_M_feelOf 74 (.iload 4) 2 76 := ⟨by decide +kernel, rfl⟩
set_option maxRecDepth 100000 in
theorem d_M_feelOf_76 : Dc m_M_feelOf 76 .ireturn 1 77 := ⟨by decide +kernel, rfl⟩
set_option maxRecDepth 100000 in
theorem d_M_feel_0 : Dc m_M_feel 0 (.aload_n 0) 1 1 := ⟨by decide +kernel, rfl⟩
set_option maxRecDepth 100000 in
theorem d_M_feel_1 : Dc m_M_feel 1 (.iload_n 1) 1 2 := ⟨by decide +kernel, rfl⟩
set_option maxRecDepth 100000 in
theorem d_M_feel_2 : Dc m_M_feel 2 (.invokevirtual 115) 3 5 := ⟨by decide +kernel, rfl⟩
set_option maxRecDepth 100000 in
theorem d_M_feel_5 : Dj m_M_feel 5 (.ifCond .eq) 8 32 := ⟨27, by decide +kernel, rfl, by decide⟩
set_option maxRecDepth 100000 in
theorem d_M_feel_8 : Dc m_M_feel 8 (.iload_n 2) 1 9 := ⟨by decide +kernel, rfl⟩
set_option maxRecDepth 100000 in
theorem d_M_feel_9 : Dc m_M_feel 9 (.invokestatic 91) 3 12 := ⟨by decide +kernel, rfl⟩
set_option maxRecDepth 100000 in
theorem d_M_feel_12 : Dj m_M_feel 12 (.ifCond .eq) 15 32 := ⟨20, by decide +kernel, rfl, by decide⟩
set_option maxRecDepth 100000 in
theorem d_M_feel_15 : Dc m_M_feel 15 (.iload_n 3) 1 16 := ⟨by decide +kernel, rfl⟩
set_option maxRecDepth 100000 in
theorem d_M_feel_16 : Dc m_M_feel 16 (.invokestatic 142) 3 19 := ⟨by decide +kernel, rfl⟩
set_option maxRecDepth 100000 in
theorem d_M_feel_19 : Dj m_M_feel 19 (.ifCond .eq) 22 32 := ⟨13, by decide +kernel, rfl, by decide⟩
set_option maxRecDepth 100000 in
theorem d_M_feel_22 : Dc m_M_feel 22 (.aload_n 0) 1 23 := ⟨by decide +kernel, rfl⟩
set_option maxRecDepth 100000 in
theorem d_M_feel_23 : Dc m_M_feel 23 (.iload_n 1) 1 24 := ⟨by decide +kernel, rfl⟩
set_option maxRecDepth 100000 in
theorem d_M_feel_24 : Dc m_M_feel 24 (.iload_n 2) 1 25 := ⟨by decide +kernel, rfl⟩
set_option maxRecDepth 100000 in
theorem d_M_feel_25 : Dc m_M_feel 25 (.iload_n 3) 1 26 := ⟨by decide +kernel, rfl⟩
set_option maxRecDepth 100000 in
theorem d_M_feel_26 : Dc m_M_feel 26 (.invokevirtual 145) 3 29 := ⟨by decide +kernel, rfl⟩
set_option maxRecDepth 100000 in
theorem d_M_feel_29 : Dj m_M_feel 29 .goto 32 33 := ⟨4, by decide +kernel, rfl, by decide⟩
set_option maxRecDepth 100000 in
theorem d_M_feel_32 : Dc m_M_feel 32 (.iconst (-1)) 1 33 := ⟨by decide +kernel, rfl⟩
set_option maxRecDepth 100000 in
theorem d_M_feel_33 : Dc m_M_feel 33 .ireturn 1 34 := ⟨by decide +kernel, rfl⟩
set_option maxRecDepth 100000 in
theorem d_M_takesBy_0 : Dc m_M_takesBy 0 (.iconst 1) 1 1 := ⟨by decide +kernel, rfl⟩
set_option maxRecDepth 100000 in
theorem d_M_takesBy_1 : Dc m_M_takesBy 1 (.bipush (100)) 2 3 := ⟨by decide +kernel, rfl⟩
set_option maxRecDepth 100000 in
theorem d_M_takesBy_3 : Dc m_M_takesBy 3 (.iload_n 0) 1 4 := ⟨by decide +kernel, rfl⟩
set_option maxRecDepth 100000 in
theorem d_M_takesBy_4 : Dc m_M_takesBy 4 .isub 1 5 := ⟨by decide +kernel, rfl⟩
set_option maxRecDepth 100000 in
theorem d_M_takesBy_5 : Dc m_M_takesBy 5 (.bipush (15)) 2 7 := ⟨by decide +kernel, rfl⟩
set_option maxRecDepth 100000 in
theorem d_M_takesBy_7 : Dc m_M_takesBy 7 .idiv 1 8 := ⟨by decide +kernel, rfl⟩
set_option maxRecDepth 100000 in
theorem d_M_takesBy_8 : Dc m_M_takesBy 8 .iadd 1 9 := ⟨by decide +kernel, rfl⟩
set_option maxRecDepth 100000 in
theorem d_M_takesBy_9 : Dc m_M_takesBy 9 .ireturn 1 10 := ⟨by decide +kernel, rfl⟩
set_option maxRecDepth 100000 in
theorem d_M_isAtOnce_0 : Dc m_M_isAtOnce 0 (.aload_n 0) 1 1 := ⟨by decide +kernel, rfl⟩
set_option maxRecDepth 100000 in
theorem d_M_isAtOnce_1 : Dc m_M_isAtOnce 1 (.iload_n 1) 1 2 := ⟨by decide +kernel, rfl⟩
set_option maxRecDepth 100000 in
theorem d_M_isAtOnce_2 : Dc m_M_isAtOnce 2 (.iload_n 2) 1 3 := ⟨by decide +kernel, rfl⟩
set_option maxRecDepth 100000 in
theorem d_M_isAtOnce_3 : Dc m_M_isAtOnce 3 (.iload_n 3) 1 4 := ⟨by decide +kernel, rfl⟩
set_option maxRecDepth 100000 in
theorem d_M_isAtOnce_4 : Dc m_M_isAtOnce 4 (.invokevirtual 145) 3 7 := ⟨by decide +kernel, rfl⟩
set_option maxRecDepth 100000 in
theorem d_M_isAtOnce_7 : Dc m_M_isAtOnce 7 (.istore 4) 2 9 := ⟨by decide +kernel, rfl⟩
set_option maxRecDepth 100000 in
theorem d_M_isAtOnce_9 : Dc m_M_isAtOnce 9 (.iload 4) 2 11 := ⟨by decide +kernel, rfl⟩
set_option maxRecDepth 100000 in
theorem d_M_isAtOnce_11 : Dc m_M_isAtOnce 11 (.aload_n 0) 1 12 := ⟨by decide +kernel, rfl⟩
set_option maxRecDepth 100000 in
theorem d_M_isAtOnce_12 : Dc m_M_isAtOnce 12 (.getfield 13) 3 15 := ⟨by decide +kernel, rfl⟩
set_option maxRecDepth 100000 in
theorem d_M_isAtOnce_15 : Dc m_M_isAtOnce 15 (.iconst 1) 1 16 := ⟨by decide +kernel, rfl⟩
set_option maxRecDepth 100000 in
theorem d_M_isAtOnce_16 : Dc m_M_isAtOnce 16 .iaload 1 17 := ⟨by decide +kernel, rfl⟩
set_option maxRecDepth 100000 in
theorem d_M_isAtOnce_17 : Dj m_M_isAtOnce 17 (.if_icmp .lt) 20 33 := ⟨16, by decide +kernel, rfl, by decide⟩
set_option maxRecDepth 100000 in
theorem d_M_isAtOnce_20 : Dc m_M_isAtOnce 20 (.iload 4) 2 22 := ⟨by decide +kernel, rfl⟩
set_option maxRecDepth 100000 in
theorem d_M_isAtOnce_22 : Dc m_M_isAtOnce 22 (.invokestatic 149) 3 25 := ⟨by decide +kernel, rfl⟩
set_option maxRecDepth 100000 in
theorem d_M_isAtOnce_25 : Dc m_M_isAtOnce 25 (.iload_n 3) 1 26 := ⟨by decide +kernel, rfl⟩
set_option maxRecDepth 100000 in
theorem d_M_isAtOnce_26 : Dj m_M_isAtOnce 26 (.if_icmp .gt) 29 33 := ⟨7, by decide +kernel, rfl, by decide⟩
set_option maxRecDepth 100000 in
theorem d_M_isAtOnce_29 : Dc m_M_isAtOnce 29 (.iconst 1) 1 30 := ⟨by decide +kernel, rfl⟩
set_option maxRecDepth 100000 in
theorem d_M_isAtOnce_30 : Dj m_M_isAtOnce 30 .goto 33 34 := ⟨4, by decide +kernel, rfl, by decide⟩
set_option maxRecDepth 100000 in
theorem d_M_isAtOnce_33 : Dc m_M_isAtOnce 33 (.iconst 0) 1 34 := ⟨by decide +kernel, rfl⟩
set_option maxRecDepth 100000 in
theorem d_M_isAtOnce_34 : Dc m_M_isAtOnce 34 .ireturn 1 35 := ⟨by decide +kernel, rfl⟩
set_option maxRecDepth 100000 in
theorem d_M_stepOf_0 : Dc m_M_stepOf 0 (.aload_n 0) 1 1 := ⟨by decide +kernel, rfl⟩
set_option maxRecDepth 100000 in
theorem d_M_stepOf_1 : Dc m_M_stepOf 1 (.iload_n 1) 1 2 := ⟨by decide +kernel, rfl⟩
set_option maxRecDepth 100000 in
theorem d_M_stepOf_2 : Dc m_M_stepOf 2 (.invokevirtual 118) 3 5 := ⟨by decide +kernel, rfl⟩
set_option maxRecDepth 100000 in
theorem d_M_stepOf_5 : Ts m_M_stepOf 5 [(1, 36), (2, 38), (3, 38), (4, 36)] 41 := ⟨36, 1, 4, [31, 33, 33, 31], 31, by decide +kernel, by decide, by decide +kernel⟩
set_option maxRecDepth 100000 in
theorem d_M_stepOf_36 : Dc m_M_stepOf 36 (.iconst 1) 1 37 := ⟨by decide +kernel, rfl⟩
set_option maxRecDepth 100000 in
theorem d_M_stepOf_37 : Dc m_M_stepOf 37 .ireturn 1 38 := ⟨by decide +kernel, rfl⟩
set_option maxRecDepth 100000 in
theorem d_M_stepOf_38 : Dc m_M_stepOf 38 (.bipush (99)) 2 40 := ⟨by decide +kernel, rfl⟩
set_option maxRecDepth 100000 in
theorem d_M_stepOf_40 : Dc m_M_stepOf 40 .ireturn 1 41 := ⟨by decide +kernel, rfl⟩
set_option maxRecDepth 100000 in
theorem d_M_stepOf_41 : Dc m_M_stepOf 41 (.iconst 2) 1 42 := ⟨by decide +kernel, rfl⟩
set_option maxRecDepth 100000 in
theorem d_M_stepOf_42 : Dc m_M_stepOf 42 .ireturn 1 43 := ⟨by decide +kernel, rfl⟩
set_option maxRecDepth 100000 in
theorem d_M_wayFrom_0 : Dc m_M_wayFrom 0 (.iload_n 3) 1 1 := ⟨by decide +kernel, rfl⟩
set_option maxRecDepth 100000 in
theorem d_M_wayFrom_1 : Dc m_M_wayFrom 1 (.aload_n 0) 1 2 := ⟨by decide +kernel, rfl⟩
set_option maxRecDepth 100000 in
theorem d_M_wayFrom_2 : Dc m_M_wayFrom 2 (.iload_n 1) 1 3 := ⟨by decide +kernel, rfl⟩
set_option maxRecDepth 100000 in
theorem d_M_wayFrom_3 : Dc m_M_wayFrom 3 (.invokevirtual 152) 3 6 := ⟨by decide +kernel, rfl⟩
set_option maxRecDepth 100000 in
theorem d_M_wayFrom_6 : Dc m_M_wayFrom 6 .isub 1 7 := ⟨by decide +kernel, rfl⟩
set_option maxRecDepth 100000 in
theorem d_M_wayFrom_7 : Dc m_M_wayFrom 7 (.istore 4) 2 9 := ⟨by decide +kernel, rfl⟩
set_option maxRecDepth 100000 in
theorem d_M_wayFrom_9 : Dc m_M_wayFrom 9 (.iload 4) 2 11 := ⟨by decide +kernel, rfl⟩
set_option maxRecDepth 100000 in
theorem d_M_wayFrom_11 : Dc m_M_wayFrom 11 (.iconst 1) 1 12 := ⟨by decide +kernel, rfl⟩
set_option maxRecDepth 100000 in
theorem d_M_wayFrom_12 : Dj m_M_wayFrom 12 (.if_icmp .ge) 15 18 := ⟨6, by decide +kernel, rfl, by decide⟩
set_option maxRecDepth 100000 in
theorem d_M_wayFrom_15 : Dc m_M_wayFrom 15 (.bipush (-3)) 2 17 := ⟨by decide +kernel, rfl⟩
set_option maxRecDepth 100000 in
theorem d_M_wayFrom_17 : Dc m_M_wayFrom 17 .ireturn 1 18 := ⟨by decide +kernel, rfl⟩
set_option maxRecDepth 100000 in
theorem d_M_wayFrom_18 : Dc m_M_wayFrom 18 (.iload_n 2) 1 19 := ⟨by decide +kernel, rfl⟩
set_option maxRecDepth 100000 in
theorem d_M_wayFrom_19 : Dc m_M_wayFrom 19 (.invokestatic 76) 3 22 := ⟨by decide +kernel, rfl⟩
set_option maxRecDepth 100000 in
theorem d_M_wayFrom_22 : Dc m_M_wayFrom 22 (.iconst 1) 1 23 := ⟨by decide +kernel, rfl⟩
set_option maxRecDepth 100000 in
theorem d_M_wayFrom_23 : Dc m_M_wayFrom 23 .isub 1 24 := ⟨by decide +kernel, rfl⟩
set_option maxRecDepth 100000 in
theorem d_M_wayFrom_24 : Dc m_M_wayFrom 24 (.iload_n 2) 1 25 := ⟨by decide +kernel, rfl⟩
set_option maxRecDepth 100000 in
theorem d_M_wayFrom_25 : Dc m_M_wayFrom 25 (.invokestatic 80) 3 28 := ⟨by decide +kernel, rfl⟩
set_option maxRecDepth 100000 in
theorem d_M_wayFrom_28 : Dc m_M_wayFrom 28 (.invokestatic 83) 3 31 := ⟨by decide +kernel, rfl⟩
set_option maxRecDepth 100000 in
theorem d_M_wayFrom_31 : Dc m_M_wayFrom 31 (.istore 5) 2 33 := ⟨by decide +kernel, rfl⟩
set_option maxRecDepth 100000 in
theorem d_M_wayFrom_33 : Dc m_M_wayFrom 33 (.iload 5) 2 35 := ⟨by decide +kernel, rfl⟩
set_option maxRecDepth 100000 in
theorem d_M_wayFrom_35 : Dj m_M_wayFrom 35 (.ifCond .lt) 38 62 := ⟨27, by decide +kernel, rfl, by decide⟩
set_option maxRecDepth 100000 in
theorem d_M_wayFrom_38 : Dc m_M_wayFrom 38 (.aload_n 0) 1 39 := ⟨by decide +kernel, rfl⟩
set_option maxRecDepth 100000 in
theorem d_M_wayFrom_39 : Dc m_M_wayFrom 39 (.iload_n 1) 1 40 := ⟨by decide +kernel, rfl⟩
set_option maxRecDepth 100000 in
theorem d_M_wayFrom_40 : Dc m_M_wayFrom 40 (.iload 5) 2 42 := ⟨by decide +kernel, rfl⟩
set_option maxRecDepth 100000 in
theorem d_M_wayFrom_42 : Dj m_M_wayFrom 42 (.ifCond .ge) 45 49 := ⟨7, by decide +kernel, rfl, by decide⟩
set_option maxRecDepth 100000 in
theorem d_M_wayFrom_45 : Dc m_M_wayFrom 45 (.iconst 0) 1 46 := ⟨by decide +kernel, rfl⟩
set_option maxRecDepth 100000 in
theorem d_M_wayFrom_46 : Dj m_M_wayFrom 46 .goto 49 51 := ⟨5, by decide +kernel, rfl, by decide⟩
set_option maxRecDepth 100000 in
theorem d_M_wayFrom_49 : Dc m_M_wayFrom 49 (.iload 5) 2 51 := ⟨by decide +kernel, rfl⟩
set_option maxRecDepth 100000 in
theorem d_M_wayFrom_51 : Dc m_M_wayFrom 51 (.iload 4) 2 53 := ⟨by decide +kernel, rfl⟩
set_option maxRecDepth 100000 in
theorem d_M_wayFrom_53 : Dc m_M_wayFrom 53 (.invokevirtual 155) 3 56 := ⟨by decide +kernel, rfl⟩
set_option maxRecDepth 100000 in
theorem d_M_wayFrom_56 : Dj m_M_wayFrom 56 (.ifCond .eq) 59 62 := ⟨6, by decide +kernel, rfl, by decide⟩
set_option maxRecDepth 100000 in
theorem d_M_wayFrom_59 : Dc m_M_wayFrom 59 (.iload 5) 2 61 := ⟨by decide +kernel, rfl⟩
set_option maxRecDepth 100000 in
theorem d_M_wayFrom_61 : Dc m_M_wayFrom 61 .ireturn 1 62 := ⟨by decide +kernel, rfl⟩
set_option maxRecDepth 100000 in
theorem d_M_wayFrom_62 : Dc m_M_wayFrom 62 (.iload_n 2) 1 63 := ⟨by decide +kernel, rfl⟩
set_option maxRecDepth 100000 in
theorem d_M_wayFrom_63 : Dc m_M_wayFrom 63 (.invokestatic 76) 3 66 := ⟨by decide +kernel, rfl⟩
set_option maxRecDepth 100000 in
theorem d_M_wayFrom_66 : Dc m_M_wayFrom 66 (.iload_n 2) 1 67 := ⟨by decide +kernel, rfl⟩
set_option maxRecDepth 100000 in
theorem d_M_wayFrom_67 : Dc m_M_wayFrom 67 (.invokestatic 80) 3 70 := ⟨by decide +kernel, rfl⟩
set_option maxRecDepth 100000 in
theorem d_M_wayFrom_70 : Dc m_M_wayFrom 70 (.iconst 1) 1 71 := ⟨by decide +kernel, rfl⟩
set_option maxRecDepth 100000 in
theorem d_M_wayFrom_71 : Dc m_M_wayFrom 71 .isub 1 72 := ⟨by decide +kernel, rfl⟩
set_option maxRecDepth 100000 in
theorem d_M_wayFrom_72 : Dc m_M_wayFrom 72 (.invokestatic 83) 3 75 := ⟨by decide +kernel, rfl⟩
set_option maxRecDepth 100000 in
theorem d_M_wayFrom_75 : Dc m_M_wayFrom 75 (.istore 6) 2 77 := ⟨by decide +kernel, rfl⟩
set_option maxRecDepth 100000 in
theorem d_M_wayFrom_77 : Dc m_M_wayFrom 77 (.iload 6) 2 79 := ⟨by decide +kernel, rfl⟩
set_option maxRecDepth 100000 in
theorem d_M_wayFrom_79 : Dj m_M_wayFrom 79 (.ifCond .lt) 82 108 := ⟨29, by decide +kernel, rfl, by decide⟩
set_option maxRecDepth 100000 in
theorem d_M_wayFrom_82 : Dc m_M_wayFrom 82 (.aload_n 0) 1 83 := ⟨by decide +kernel, rfl⟩
set_option maxRecDepth 100000 in
theorem d_M_wayFrom_83 : Dc m_M_wayFrom 83 (.iload_n 1) 1 84 := ⟨by decide +kernel, rfl⟩
set_option maxRecDepth 100000 in
theorem d_M_wayFrom_84 : Dc m_M_wayFrom 84 (.iload 6) 2 86 := ⟨by decide +kernel, rfl⟩
set_option maxRecDepth 100000 in
theorem d_M_wayFrom_86 : Dj m_M_wayFrom 86 (.ifCond .ge) 89 93 := ⟨7, by decide +kernel, rfl, by decide⟩
set_option maxRecDepth 100000 in
theorem d_M_wayFrom_89 : Dc m_M_wayFrom 89 (.iconst 0) 1 90 := ⟨by decide +kernel, rfl⟩
set_option maxRecDepth 100000 in
theorem d_M_wayFrom_90 : Dj m_M_wayFrom 90 .goto 93 95 := ⟨5, by decide +kernel, rfl, by decide⟩
set_option maxRecDepth 100000 in
theorem d_M_wayFrom_93 : Dc m_M_wayFrom 93 (.iload 6) 2 95 := ⟨by decide +kernel, rfl⟩
set_option maxRecDepth 100000 in
theorem d_M_wayFrom_95 : Dc m_M_wayFrom 95 (.iload 4) 2 97 := ⟨by decide +kernel, rfl⟩
set_option maxRecDepth 100000 in
theorem d_M_wayFrom_97 : Dc m_M_wayFrom 97 (.invokevirtual 155) 3 100 := ⟨by decide +kernel, rfl⟩
set_option maxRecDepth 100000 in
theorem d_M_wayFrom_100 : Dj m_M_wayFrom 100 (.ifCond .eq) 103 108 := ⟨8, by decide +kernel, rfl, by decide⟩
set_option maxRecDepth 100000 in
theorem d_M_wayFrom_103 : Dc m_M_wayFrom 103 (.iload 6) 2 105 := ⟨by decide +kernel, rfl⟩
set_option maxRecDepth 100000 in
theorem d_M_wayFrom_105 : Dj m_M_wayFrom 105 .goto 108 110 := ⟨5, by decide +kernel, rfl, by decide⟩
set_option maxRecDepth 100000 in
theorem d_M_wayFrom_108 : Dc m_M_wayFrom 108 (.bipush (-3)) 2 110 := ⟨by decide +kernel, rfl⟩
set_option maxRecDepth 100000 in
theorem d_M_wayFrom_110 : Dc m_M_wayFrom 110 .ireturn 1 111 := ⟨by decide +kernel, rfl⟩
set_option maxRecDepth 100000 in
theorem d_M_slipTo_0 : Dc m_M_slipTo 0 (.iconst (-1)) 1 1 := ⟨by decide +kernel, rfl⟩
set_option maxRecDepth 100000 in
theorem d_M_slipTo_1 : Dc m_M_slipTo 1 (.istore 4) 2 3 := ⟨by decide +kernel, rfl⟩
set_option maxRecDepth 100000 in
theorem d_M_slipTo_3 : Dc m_M_slipTo 3 (.iload_n 2) 1 4 := ⟨by decide +kernel, rfl⟩
set_option maxRecDepth 100000 in
theorem d_M_slipTo_4 : Dc m_M_slipTo 4 (.invokestatic 101) 3 7 := ⟨by decide +kernel, rfl⟩
set_option maxRecDepth 100000 in
theorem d_M_slipTo_7 : Dc m_M_slipTo 7 (.lstore 5) 2 9 := ⟨by decide +kernel, rfl⟩
set_option maxRecDepth 100000 in
theorem d_M_slipTo_9 : Dc m_M_slipTo 9 (.iconst 0) 1 10 := ⟨by decide +kernel, rfl⟩
set_option maxRecDepth 100000 in
theorem d_M_slipTo_10 : Dc m_M_slipTo 10 (.istore 7) 2 12 := ⟨by decide +kernel, rfl⟩
set_option maxRecDepth 100000 in
theorem d_M_slipTo_12 : Dc m_M_slipTo 12 (.iload 7) 2 14 := ⟨by decide +kernel, rfl⟩
set_option maxRecDepth 100000 in
theorem d_M_slipTo_14 : Dc m_M_slipTo 14 (.bipush (36)) 2 16 := ⟨by decide +kernel, rfl⟩
set_option maxRecDepth 100000 in
theorem d_M_slipTo_16 : Dj m_M_slipTo 16 (.if_icmp .ge) 19 79 := ⟨63, by decide +kernel, rfl, by decide⟩
set_option maxRecDepth 100000 in
theorem d_M_slipTo_19 : Dc m_M_slipTo 19 (.lload 5) 2 21 := ⟨by decide +kernel, rfl⟩
set_option maxRecDepth 100000 in
theorem d_M_slipTo_21 : Dc m_M_slipTo 21 (.iload 7) 2 23 := ⟨by decide +kernel, rfl⟩
set_option maxRecDepth 100000 in
theorem d_M_slipTo_23 : Dc m_M_slipTo 23 .lshr 1 24 := ⟨by decide +kernel, rfl⟩
set_option maxRecDepth 100000 in
theorem d_M_slipTo_24 : Dc m_M_slipTo 24 (.lconst 1) 1 25 := ⟨by decide +kernel, rfl⟩
set_option maxRecDepth 100000 in
theorem d_M_slipTo_25 : Dc m_M_slipTo 25 .land 1 26 := ⟨by decide +kernel, rfl⟩
set_option maxRecDepth 100000 in
theorem d_M_slipTo_26 : Dc m_M_slipTo 26 (.lconst 1) 1 27 := ⟨by decide +kernel, rfl⟩
set_option maxRecDepth 100000 in
theorem d_M_slipTo_27 : Dc m_M_slipTo 27 .lcmp 1 28 := ⟨by decide +kernel, rfl⟩
set_option maxRecDepth 100000 in
theorem d_M_slipTo_28 : Dj m_M_slipTo 28 (.ifCond .ne) 31 73 := ⟨45, by decide +kernel, rfl, by decide⟩
set_option maxRecDepth 100000 in
theorem d_M_slipTo_31 : Dc m_M_slipTo 31 (.iload 4) 2 33 := ⟨by decide +kernel, rfl⟩
set_option maxRecDepth 100000 in
theorem d_M_slipTo_33 : Dj m_M_slipTo 33 (.ifCond .lt) 36 64 := ⟨31, by decide +kernel, rfl, by decide⟩
set_option maxRecDepth 100000 in
theorem d_M_slipTo_36 : Dc m_M_slipTo 36 (.aload_n 0) 1 37 := ⟨by decide +kernel, rfl⟩
set_option maxRecDepth 100000 in
theorem d_M_slipTo_37 : Dc m_M_slipTo 37 (.iload_n 1) 1 38 := ⟨by decide +kernel, rfl⟩
set_option maxRecDepth 100000 in
theorem d_M_slipTo_38 : Dc m_M_slipTo 38 (.iload 7) 2 40 := ⟨by decide +kernel, rfl⟩
set_option maxRecDepth 100000 in
theorem d_M_slipTo_40 : Dc m_M_slipTo 40 (.iload_n 3) 1 41 := ⟨by decide +kernel, rfl⟩
set_option maxRecDepth 100000 in
theorem d_M_slipTo_41 : Dc m_M_slipTo 41 (.invokevirtual 145) 3 44 := ⟨by decide +kernel, rfl⟩
set_option maxRecDepth 100000 in
theorem d_M_slipTo_44 : Dc m_M_slipTo 44 (.aload_n 0) 1 45 := ⟨by decide +kernel, rfl⟩
set_option maxRecDepth 100000 in
theorem d_M_slipTo_45 : Dc m_M_slipTo 45 (.iload_n 1) 1 46 := ⟨by decide +kernel, rfl⟩
set_option maxRecDepth 100000 in
theorem d_M_slipTo_46 : Dc m_M_slipTo 46 (.iload 4) 2 48 := ⟨by decide +kernel, rfl⟩
set_option maxRecDepth 100000 in
theorem d_M_slipTo_48 : Dj m_M_slipTo 48 (.ifCond .ge) 51 55 := ⟨7, by decide +kernel, rfl, by decide⟩
set_option maxRecDepth 100000 in
theorem d_M_slipTo_51 : Dc m_M_slipTo 51 (.iconst 0) 1 52 := ⟨by decide +kernel, rfl⟩
set_option maxRecDepth 100000 in
theorem d_M_slipTo_52 : Dj m_M_slipTo 52 .goto 55 57 := ⟨5, by decide +kernel, rfl, by decide⟩
set_option maxRecDepth 100000 in
theorem d_M_slipTo_55 : Dc m_M_slipTo 55 (.iload 4) 2 57 := ⟨by decide +kernel, rfl⟩
set_option maxRecDepth 100000 in
theorem d_M_slipTo_57 : Dc m_M_slipTo 57 (.iload_n 3) 1 58 := ⟨by decide +kernel, rfl⟩
set_option maxRecDepth 100000 in
theorem d_M_slipTo_58 : Dc m_M_slipTo 58 (.invokevirtual 145) 3 61 := ⟨by decide +kernel, rfl⟩
set_option maxRecDepth 100000 in
theorem d_M_slipTo_61 : Dj m_M_slipTo 61 (.if_icmp .le) 64 69 := ⟨8, by decide +kernel, rfl, by decide⟩
set_option maxRecDepth 100000 in
theorem d_M_slipTo_64 : Dc m_M_slipTo 64 (.iload 7) 2 66 := ⟨by decide +kernel, rfl⟩
set_option maxRecDepth 100000 in
theorem d_M_slipTo_66 : Dj m_M_slipTo 66 .goto 69 71 := ⟨5, by decide +kernel, rfl, by decide⟩
set_option maxRecDepth 100000 in
theorem d_M_slipTo_69 : Dc m_M_slipTo 69 (.iload 4) 2 71 := ⟨by decide +kernel, rfl⟩
set_option maxRecDepth 100000 in
theorem d_M_slipTo_71 : Dc m_M_slipTo 71 (.istore 4) 2 73 := ⟨by decide +kernel, rfl⟩
set_option maxRecDepth 100000 in
theorem d_M_slipTo_73 : Dc m_M_slipTo 73 (.iinc 7 (1)) 3 76 := ⟨by decide +kernel, rfl⟩
set_option maxRecDepth 100000 in
theorem d_M_slipTo_76 : Dj m_M_slipTo 76 .goto 79 12 := ⟨-64, by decide +kernel, rfl, by decide⟩
set_option maxRecDepth 100000 in
theorem d_M_slipTo_79 : Dc m_M_slipTo 79 (.aload_n 0) 1 80 := ⟨by decide +kernel, rfl⟩
set_option maxRecDepth 100000 in
theorem d_M_slipTo_80 : Dc m_M_slipTo 80 (.iload_n 1) 1 81 := ⟨by decide +kernel, rfl⟩
set_option maxRecDepth 100000 in
theorem d_M_slipTo_81 : Dc m_M_slipTo 81 (.invokevirtual 118) 3 84 := ⟨by decide +kernel, rfl⟩
set_option maxRecDepth 100000 in
theorem d_M_slipTo_84 : Dc m_M_slipTo 84 (.iconst 5) 1 85 := ⟨by decide +kernel, rfl⟩
set_option maxRecDepth 100000 in
theorem d_M_slipTo_85 : Dj m_M_slipTo 85 (.if_icmp .eq) 88 105 := ⟨20, by decide +kernel, rfl, by decide⟩
set_option maxRecDepth 100000 in
theorem d_M_slipTo_88 : Dc m_M_slipTo 88 (.aload_n 0) 1 89 := ⟨by decide +kernel, rfl⟩
set_option maxRecDepth 100000 in
theorem d_M_slipTo_89 : Dc m_M_slipTo 89 (.iload_n 1) 1 90 := ⟨by decide +kernel, rfl⟩
set_option maxRecDepth 100000 in
theorem d_M_slipTo_90 : Dc m_M_slipTo 90 (.iload 4) 2 92 := ⟨by decide +kernel, rfl⟩
set_option maxRecDepth 100000 in
theorem d_M_slipTo_92 : Dc m_M_slipTo 92 (.iload_n 3) 1 93 := ⟨by decide +kernel, rfl⟩
set_option maxRecDepth 100000 in
theorem d_M_slipTo_93 : Dc m_M_slipTo 93 (.invokevirtual 145) 3 96 := ⟨by decide +kernel, rfl⟩
set_option maxRecDepth 100000 in
theorem d_M_slipTo_96 : Dc m_M_slipTo 96 (.aload_n 0) 1 97 := ⟨by decide +kernel, rfl⟩
set_option maxRecDepth 100000 in
theorem d_M_slipTo_97 : Dc m_M_slipTo 97 (.getfield 13) 3 100 := ⟨by decide +kernel, rfl⟩
set_option maxRecDepth 100000 in
theorem d_M_slipTo_100 : Dc m_M_slipTo 100 (.iconst 2) 1 101 := ⟨by decide +kernel, rfl⟩
set_option maxRecDepth 100000 in
theorem d_M_slipTo_101 : Dc m_M_slipTo 101 .iaload 1 102 := ⟨by decide +kernel, rfl⟩
set_option maxRecDepth 100000 in
theorem d_M_slipTo_102 : Dj m_M_slipTo 102 (.if_icmp .lt) 105 110 := ⟨8, by decide +kernel, rfl, by decide⟩
set_option maxRecDepth 100000 in
theorem d_M_slipTo_105 : Dc m_M_slipTo 105 (.iload 4) 2 107 := ⟨by decide +kernel, rfl⟩
set_option maxRecDepth 100000 in
theorem d_M_slipTo_107 : Dj m_M_slipTo 107 .goto 110 112 := ⟨5, by decide +kernel, rfl, by decide⟩
set_option maxRecDepth 100000 in
theorem d_M_slipTo_110 : Dc m_M_slipTo 110 (.bipush (-3)) 2 112 := ⟨by decide +kernel, rfl⟩
set_option maxRecDepth 100000 in
theorem d_M_slipTo_112 : Dc m_M_slipTo 112 .ireturn 1 113 := ⟨by decide +kernel, rfl⟩
set_option maxRecDepth 100000 in
theorem d_M_says_0 : Dc m_M_says 0 (.aload_n 0) 1 1 := ⟨by decide +kernel, rfl⟩
set_option maxRecDepth 100000 in
theorem d_M_says_1 : Dc m_M_says 1 (.bipush (-9)) 2 3 := ⟨by decide +kernel, rfl⟩
set_option maxRecDepth 100000 in
theorem d_M_says_3 : Dc m_M_says 3 (.putfield 158) 3 6 := ⟨by decide +kernel, rfl⟩
set_option maxRecDepth 100000 in
theorem d_M_says_6 : Dc m_M_says 6 (.aload_n 0) 1 7 := ⟨by decide +kernel, rfl⟩
set_option maxRecDepth 100000 in
theorem d_M_says_7 : Dc m_M_says 7 (.iload_n 1) 1 8 := ⟨by decide +kernel, rfl⟩
set_option maxRecDepth 100000 in
theorem d_M_says_8 : Dc m_M_says 8 (.iload_n 2) 1 9 := ⟨by decide +kernel, rfl⟩
set_option maxRecDepth 100000 in
theorem d_M_says_9 : Dc m_M_says 9 (.iload_n 3) 1 10 := ⟨by decide +kernel, rfl⟩
set_option maxRecDepth 100000 in
theorem d_M_says_10 : Dc m_M_says 10 (.invokevirtual 155) 3 13 := ⟨by decide +kernel, rfl⟩
set_option maxRecDepth 100000 in
theorem d_M_says_13 : Dj m_M_says 13 (.ifCond .eq) 16 36 := ⟨23, by decide +kernel, rfl, by decide⟩
set_option maxRecDepth 100000 in
theorem d_M_says_16 : Dc m_M_says 16 (.aload_n 0) 1 17 := ⟨by decide +kernel, rfl⟩
set_option maxRecDepth 100000 in
theorem d_M_says_17 : Dc m_M_says 17 (.iconst 0) 1 18 := ⟨by decide +kernel, rfl⟩
set_option maxRecDepth 100000 in
theorem d_M_says_18 : Dc m_M_says 18 (.putfield 161) 3 21 := ⟨by decide +kernel, rfl⟩
set_option maxRecDepth 100000 in
theorem d_M_says_21 : Dc m_M_says 21 (.aload_n 0) 1 22 := ⟨by decide +kernel, rfl⟩
set_option maxRecDepth 100000 in
theorem d_M_says_22 : Dc m_M_says 22 (.aload_n 0) 1 23 := ⟨by decide +kernel, rfl⟩
set_option maxRecDepth 100000 in
theorem d_M_says_23 : Dc m_M_says 23 (.iload_n 1) 1 24 := ⟨by decide +kernel, rfl⟩
set_option maxRecDepth 100000 in
theorem d_M_says_24 : Dc m_M_says 24 (.iload_n 2) 1 25 := ⟨by decide +kernel, rfl⟩
set_option maxRecDepth 100000 in
theorem d_M_says_25 : Dc m_M_says 25 (.iload_n 3) 1 26 := ⟨by decide +kernel, rfl⟩
set_option maxRecDepth 100000 in
theorem d_M_says_26 : Dc m_M_says 26 (.invokevirtual 145) 3 29 := ⟨by decide +kernel, rfl⟩
set_option maxRecDepth 100000 in
theorem d_M_says_29 : Dc m_M_says 29 (.invokestatic 149) 3 32 := ⟨by decide +kernel, rfl⟩
set_option maxRecDepth 100000 in
theorem d_M_says_32 : Dc m_M_says 32 (.putfield 164) 3 35 := ⟨by decide +kernel, rfl⟩
set_option maxRecDepth 100000 in
theorem d_M_says_35 : Dc m_M_says 35 .return_ 1 36 := ⟨by decide +kernel, rfl⟩
set_option maxRecDepth 100000 in
theorem d_M_says_36 : Dc m_M_says 36 (.aload_n 0) 1 37 := ⟨by decide +kernel, rfl⟩
set_option maxRecDepth 100000 in
theorem d_M_says_37 : Dc m_M_says 37 (.iload_n 1) 1 38 := ⟨by decide +kernel, rfl⟩
set_option maxRecDepth 100000 in
theorem d_M_says_38 : Dc m_M_says 38 (.iload_n 2) 1 39 := ⟨by decide +kernel, rfl⟩
set_option maxRecDepth 100000 in
theorem d_M_says_39 : Dc m_M_says 39 (.iload_n 3) 1 40 := ⟨by decide +kernel, rfl⟩
set_option maxRecDepth 100000 in
theorem d_M_says_40 : Dc m_M_says 40 (.invokevirtual 167) 3 43 := ⟨by decide +kernel, rfl⟩
set_option maxRecDepth 100000 in
theorem d_M_says_43 : Dc m_M_says 43 (.istore 4) 2 45 := ⟨by decide +kernel, rfl⟩
set_option maxRecDepth 100000 in
theorem d_M_says_45 : Dc m_M_says 45 (.iload 4) 2 47 := ⟨by decide +kernel, rfl⟩
set_option maxRecDepth 100000 in
theorem d_M_says_47 : Dj m_M_says 47 (.ifCond .lt) 50 89 := ⟨42, by decide +kernel, rfl, by decide⟩
set_option maxRecDepth 100000 in
theorem d_M_says_50 : Dc m_M_says 50 (.aload_n 0) 1 51 := ⟨by decide +kernel, rfl⟩
set_option maxRecDepth 100000 in
theorem d_M_says_51 : Dc m_M_says 51 (.iconst 1) 1 52 := ⟨by decide +kernel, rfl⟩
set_option maxRecDepth 100000 in
theorem d_M_says_52 : Dc m_M_says 52 (.putfield 161) 3 55 := ⟨by decide +kernel, rfl⟩
set_option maxRecDepth 100000 in
theorem d_M_says_55 : Dc m_M_says 55 (.aload_n 0) 1 56 := ⟨by decide +kernel, rfl⟩
set_option maxRecDepth 100000 in
theorem d_M_says_56 : Dc m_M_says 56 (.iload 4) 2 58 := ⟨by decide +kernel, rfl⟩
set_option maxRecDepth 100000 in
theorem d_M_says_58 : Dc m_M_says 58 (.putfield 158) 3 61 := ⟨by decide +kernel, rfl⟩
set_option maxRecDepth 100000 in
theorem d_M_says_61 : Dc m_M_says 61 (.aload_n 0) 1 62 := ⟨by decide +kernel, rfl⟩
set_option maxRecDepth 100000 in
theorem d_M_says_62 : Dc m_M_says 62 (.aload_n 0) 1 63 := ⟨by decide +kernel, rfl⟩
set_option maxRecDepth 100000 in
theorem d_M_says_63 : Dc m_M_says 63 (.iload_n 1) 1 64 := ⟨by decide +kernel, rfl⟩
set_option maxRecDepth 100000 in
theorem d_M_says_64 : Dc m_M_says 64 (.iload 4) 2 66 := ⟨by decide +kernel, rfl⟩
set_option maxRecDepth 100000 in
theorem d_M_says_66 : Dc m_M_says 66 (.iload_n 3) 1 67 := ⟨by decide +kernel, rfl⟩
set_option maxRecDepth 100000 in
theorem d_M_says_67 : Dc m_M_says 67 (.aload_n 0) 1 68 := ⟨by decide +kernel, rfl⟩
set_option maxRecDepth 100000 in
theorem d_M_says_68 : Dc m_M_says 68 (.iload_n 1) 1 69 := ⟨by decide +kernel, rfl⟩
set_option maxRecDepth 100000 in
theorem d_M_says_69 : Dc m_M_says 69 (.invokevirtual 152) 3 72 := ⟨by decide +kernel, rfl⟩
set_option maxRecDepth 100000 in
theorem d_M_says_72 : Dc m_M_says 72 .isub 1 73 := ⟨by decide +kernel, rfl⟩
set_option maxRecDepth 100000 in
theorem d_M_says_73 : Dc m_M_says 73 (.invokevirtual 145) 3 76 := ⟨by decide +kernel, rfl⟩
set_option maxRecDepth 100000 in
theorem d_M_says_76 : Dc m_M_says 76 (.invokestatic 149) 3 79 := ⟨by decide +kernel, rfl⟩
set_option maxRecDepth 100000 in
theorem d_M_says_79 : Dc m_M_says 79 (.aload_n 0) 1 80 := ⟨by decide +kernel, rfl⟩
set_option maxRecDepth 100000 in
theorem d_M_says_80 : Dc m_M_says 80 (.iload_n 1) 1 81 := ⟨by decide +kernel, rfl⟩
set_option maxRecDepth 100000 in
theorem d_M_says_81 : Dc m_M_says 81 (.invokevirtual 152) 3 84 := ⟨by decide +kernel, rfl⟩
set_option maxRecDepth 100000 in
theorem d_M_says_84 : Dc m_M_says 84 .iadd 1 85 := ⟨by decide +kernel, rfl⟩
set_option maxRecDepth 100000 in
theorem d_M_says_85 : Dc m_M_says 85 (.putfield 164) 3 88 := ⟨by decide +kernel, rfl⟩
set_option maxRecDepth 100000 in
theorem d_M_says_88 : Dc m_M_says 88 .return_ 1 89 := ⟨by decide +kernel, rfl⟩
set_option maxRecDepth 100000 in
theorem d_M_says_89 : Dc m_M_says 89 (.aload_n 0) 1 90 := ⟨by decide +kernel, rfl⟩
set_option maxRecDepth 100000 in
theorem d_M_says_90 : Dc m_M_says 90 (.iload_n 1) 1 91 := ⟨by decide +kernel, rfl⟩
set_option maxRecDepth 100000 in
theorem d_M_says_91 : Dc m_M_says 91 (.iload_n 2) 1 92 := ⟨by decide +kernel, rfl⟩
set_option maxRecDepth 100000 in
theorem d_M_says_92 : Dc m_M_says 92 (.iload_n 3) 1 93 := ⟨by decide +kernel, rfl⟩
set_option maxRecDepth 100000 in
theorem d_M_says_93 : Dc m_M_says 93 (.invokevirtual 170) 3 96 := ⟨by decide +kernel, rfl⟩
set_option maxRecDepth 100000 in
theorem d_M_says_96 : Dc m_M_says 96 (.istore 5) 2 98 := ⟨by decide +kernel, rfl⟩
set_option maxRecDepth 100000 in
theorem d_M_says_98 : Dc m_M_says 98 (.aload_n 0) 1 99 := ⟨by decide +kernel, rfl⟩
set_option maxRecDepth 100000 in
theorem d_M_says_99 : Dc m_M_says 99 (.iload 5) 2 101 := ⟨by decide +kernel, rfl⟩
set_option maxRecDepth 100000 in
theorem d_M_says_101 : Dj m_M_says 101 (.ifCond .lt) 104 108 := ⟨7, by decide +kernel, rfl, by decide⟩
set_option maxRecDepth 100000 in
theorem d_M_says_104 : Dc m_M_says 104 (.iconst 2) 1 105 := ⟨by decide +kernel, rfl⟩
set_option maxRecDepth 100000 in
theorem d_M_says_105 : Dj m_M_says 105 .goto 108 109 := ⟨4, by decide +kernel, rfl, by decide⟩
set_option maxRecDepth 100000 in
theorem d_M_says_108 : Dc m_M_says 108 (.iconst 3) 1 109 := ⟨by decide +kernel, rfl⟩
set_option maxRecDepth 100000 in
theorem d_M_says_109 : Dc m_M_says 109 (.putfield 161) 3 112 := ⟨by decide +kernel, rfl⟩
set_option maxRecDepth 100000 in
theorem d_M_says_112 : Dc m_M_says 112 (.aload_n 0) 1 113 := ⟨by decide +kernel, rfl⟩
set_option maxRecDepth 100000 in
theorem d_M_says_113 : Dc m_M_says 113 (.iload 5) 2 115 := ⟨by decide +kernel, rfl⟩
set_option maxRecDepth 100000 in
theorem d_M_says_115 : Dj m_M_says 115 (.ifCond .lt) 118 123 := ⟨8, by decide +kernel, rfl, by decide⟩
set_option maxRecDepth 100000 in
theorem d_M_says_118 : Dc m_M_says 118 (.iload 5) 2 120 := ⟨by decide +kernel, rfl⟩
set_option maxRecDepth 100000 in
theorem d_M_says_120 : Dj m_M_says 120 .goto 123 125 := ⟨5, by decide +kernel, rfl, by decide⟩
set_option maxRecDepth 100000 in
theorem d_M_says_123 : Dc m_M_says 123 (.bipush (-9)) 2 125 := ⟨by decide +kernel, rfl⟩
set_option maxRecDepth 100000 in
theorem d_M_says_125 : Dc m_M_says 125 (.putfield 158) 3 128 := ⟨by decide +kernel, rfl⟩
set_option maxRecDepth 100000 in
theorem d_M_says_128 : Dc m_M_says 128 (.aload_n 0) 1 129 := ⟨by decide +kernel, rfl⟩
set_option maxRecDepth 100000 in
theorem d_M_says_129 : Dc m_M_says 129 (.iload_n 3) 1 130 := ⟨by decide +kernel, rfl⟩
set_option maxRecDepth 100000 in
theorem d_M_says_130 : Dc m_M_says 130 (.putfield 164) 3 133 := ⟨by decide +kernel, rfl⟩
set_option maxRecDepth 100000 in
theorem d_M_says_133 : Dc m_M_says 133 .return_ 1 134 := ⟨by decide +kernel, rfl⟩
set_option maxRecDepth 100000 in
theorem d_M_said_0 : Dc m_M_said 0 (.aload_n 0) 1 1 := ⟨by decide +kernel, rfl⟩
set_option maxRecDepth 100000 in
theorem d_M_said_1 : Dc m_M_said 1 (.getfield 161) 3 4 := ⟨by decide +kernel, rfl⟩
set_option maxRecDepth 100000 in
theorem d_M_said_4 : Dc m_M_said 4 (.iconst 3) 1 5 := ⟨by decide +kernel, rfl⟩
set_option maxRecDepth 100000 in
theorem d_M_said_5 : Dj m_M_said 5 (.if_icmp .ne) 8 13 := ⟨8, by decide +kernel, rfl, by decide⟩
set_option maxRecDepth 100000 in
theorem d_M_said_8 : Dc m_M_said 8 (.bipush (-9)) 2 10 := ⟨by decide +kernel, rfl⟩
set_option maxRecDepth 100000 in
theorem d_M_said_10 : Dj m_M_said 10 .goto 13 35 := ⟨25, by decide +kernel, rfl, by decide⟩
set_option maxRecDepth 100000 in
theorem d_M_said_13 : Dc m_M_said 13 (.aload_n 0) 1 14 := ⟨by decide +kernel, rfl⟩
set_option maxRecDepth 100000 in
theorem d_M_said_14 : Dc m_M_said 14 (.getfield 161) 3 17 := ⟨by decide +kernel, rfl⟩
set_option maxRecDepth 100000 in
theorem d_M_said_17 : Dc m_M_said 17 (.iconst 2) 1 18 := ⟨by decide +kernel, rfl⟩
set_option maxRecDepth 100000 in
theorem d_M_said_18 : Dj m_M_said 18 (.if_icmp .ne) 21 31 := ⟨13, by decide +kernel, rfl, by decide⟩
set_option maxRecDepth 100000 in
theorem d_M_said_21 : Dc m_M_said 21 (.aload_n 0) 1 22 := ⟨by decide +kernel, rfl⟩
set_option maxRecDepth 100000 in
theorem d_M_said_22 : Dc m_M_said 22 (.getfield 158) 3 25 := ⟨by decide +kernel, rfl⟩
set_option maxRecDepth 100000 in
theorem d_M_said_25 : Dc m_M_said 25 (.invokestatic 95) 3 28 := ⟨by decide +kernel, rfl⟩
set_option maxRecDepth 100000 in
theorem d_M_said_28 : Dj m_M_said 28 .goto 31 35 := ⟨7, by decide +kernel, rfl, by decide⟩
set_option maxRecDepth 100000 in
theorem d_M_said_31 : Dc m_M_said 31 (.iload_n 1) 1 32 := ⟨by decide +kernel, rfl⟩
set_option maxRecDepth 100000 in
theorem d_M_said_32 : Dc m_M_said 32 (.invokestatic 95) 3 35 := ⟨by decide +kernel, rfl⟩
set_option maxRecDepth 100000 in
theorem d_M_said_35 : Dc m_M_said 35 .ireturn 1 36 := ⟨by decide +kernel, rfl⟩
set_option maxRecDepth 100000 in
theorem d_M_would_0 : Dc m_M_would 0 (.aload_n 0) 1 1 := ⟨by decide +kernel, rfl⟩
set_option maxRecDepth 100000 in
theorem d_M_would_1 : Dc m_M_would 1 (.iload_n 1) 1 2 := ⟨by decide +kernel, rfl⟩
set_option maxRecDepth 100000 in
theorem d_M_would_2 : Dc m_M_would 2 (.invokevirtual 115) 3 5 := ⟨by decide +kernel, rfl⟩
set_option maxRecDepth 100000 in
theorem d_M_would_5 : Dj m_M_would 5 (.ifCond .eq) 8 32 := ⟨27, by decide +kernel, rfl, by decide⟩
set_option maxRecDepth 100000 in
theorem d_M_would_8 : Dc m_M_would 8 (.iload_n 2) 1 9 := ⟨by decide +kernel, rfl⟩
set_option maxRecDepth 100000 in
theorem d_M_would_9 : Dc m_M_would 9 (.invokestatic 91) 3 12 := ⟨by decide +kernel, rfl⟩
set_option maxRecDepth 100000 in
theorem d_M_would_12 : Dj m_M_would 12 (.ifCond .eq) 15 32 := ⟨20, by decide +kernel, rfl, by decide⟩
set_option maxRecDepth 100000 in
theorem d_M_would_15 : Dc m_M_would 15 (.iload_n 3) 1 16 := ⟨by decide +kernel, rfl⟩
set_option maxRecDepth 100000 in
theorem d_M_would_16 : Dc m_M_would 16 (.invokestatic 142) 3 19 := ⟨by decide +kernel, rfl⟩
set_option maxRecDepth 100000 in
theorem d_M_would_19 : Dj m_M_would 19 (.ifCond .eq) 22 32 := ⟨13, by decide +kernel, rfl, by decide⟩
set_option maxRecDepth 100000 in
theorem d_M_would_22 : Dc m_M_would 22 (.iload 4) 2 24 := ⟨by decide +kernel, rfl⟩
set_option maxRecDepth 100000 in
theorem d_M_would_24 : Dc m_M_would 24 (.iconst 0) 1 25 := ⟨by decide +kernel, rfl⟩
set_option maxRecDepth 100000 in
theorem d_M_would_25 : Dc m_M_would 25 (.iconst 3) 1 26 := ⟨by decide +kernel, rfl⟩
set_option maxRecDepth 100000 in
theorem d_M_would_26 : Dc m_M_would 26 (.invokestatic 72) 3 29 := ⟨by decide +kernel, rfl⟩
set_option maxRecDepth 100000 in
theorem d_M_would_29 : Dj m_M_would 29 (.ifCond .ne) 32 34 := ⟨5, by decide +kernel, rfl, by decide⟩
set_option maxRecDepth 100000 in
theorem d_M_would_32 : Dc m_M_would 32 (.iconst (-1)) 1 33 := ⟨by decide +kernel, rfl⟩
set_option maxRecDepth 100000 in
theorem d_M_would_33 : Dc m_M_would 33 .ireturn 1 34 := ⟨by decide +kernel, rfl⟩
set_option maxRecDepth 100000 in
theorem d_M_would_34 : Dc m_M_would 34 (.aload_n 0) 1 35 := ⟨by decide +kernel, rfl⟩
set_option maxRecDepth 100000 in
theorem d_M_would_35 : Dc m_M_would 35 (.iload_n 1) 1 36 := ⟨by decide +kernel, rfl⟩
set_option maxRecDepth 100000 in
theorem d_M_would_36 : Dc m_M_would 36 (.iload_n 2) 1 37 := ⟨by decide +kernel, rfl⟩
set_option maxRecDepth 100000 in
theorem d_M_would_37 : Dc m_M_would 37 (.iload_n 3) 1 38 := ⟨by decide +kernel, rfl⟩
set_option maxRecDepth 100000 in
theorem d_M_would_38 : Dc m_M_would 38 (.invokevirtual 173) 3 41 := ⟨by decide +kernel, rfl⟩
set_option maxRecDepth 100000 in
theorem d_M_would_41 : Dc m_M_would 41 (.iload 4) 2 43 := ⟨by decide +kernel, rfl⟩
set_option maxRecDepth 100000 in
theorem d_M_would_43 : Dj m_M_would 43 (.ifCond .ne) 46 54 := ⟨11, by decide +kernel, rfl, by decide⟩
set_option maxRecDepth 100000 in
theorem d_M_would_46 : Dc m_M_would 46 (.aload_n 0) 1 47 := ⟨by decide +kernel, rfl⟩
set_option maxRecDepth 100000 in
theorem d_M_would_47 : Dc m_M_would 47 (.iload_n 2) 1 48 := ⟨by decide +kernel, rfl⟩
set_option maxRecDepth 100000 in
theorem d_M_would_48 : Dc m_M_would 48 (.invokevirtual 177) 3 51 := ⟨by decide +kernel, rfl⟩
set_option maxRecDepth 100000 in
theorem d_M_would_51 : Dj m_M_would 51 .goto 54 84 := ⟨33, by decide +kernel, rfl, by decide⟩
set_option maxRecDepth 100000 in
theorem d_M_would_54 : Dc m_M_would 54 (.iload 4) 2 56 := ⟨by decide +kernel, rfl⟩
set_option maxRecDepth 100000 in
theorem d_M_would_56 : Dc m_M_would 56 (.iconst 1) 1 57 := ⟨by decide +kernel, rfl⟩
set_option maxRecDepth 100000 in
theorem d_M_would_57 : Dj m_M_would 57 (.if_icmp .ne) 60 67 := ⟨10, by decide +kernel, rfl, by decide⟩
set_option maxRecDepth 100000 in
theorem d_M_would_60 : Dc m_M_would 60 (.aload_n 0) 1 61 := ⟨by decide +kernel, rfl⟩
set_option maxRecDepth 100000 in
theorem d_M_would_61 : Dc m_M_would 61 (.getfield 161) 3 64 := ⟨by decide +kernel, rfl⟩
set_option maxRecDepth 100000 in
theorem d_M_would_64 : Dj m_M_would 64 .goto 67 84 := ⟨20, by decide +kernel, rfl, by decide⟩
set_option maxRecDepth 100000 in
theorem d_M_would_67 : Dc m_M_would 67 (.iload 4) 2 69 := ⟨by decide +kernel, rfl⟩
set_option maxRecDepth 100000 in
theorem d_M_would_69 : Dc m_M_would 69 (.iconst 2) 1 70 := ⟨by decide +kernel, rfl⟩
set_option maxRecDepth 100000 in
theorem d_M_would_70 : Dj m_M_would 70 (.if_icmp .ne) 73 80 := ⟨10, by decide +kernel, rfl, by decide⟩
set_option maxRecDepth 100000 in
theorem d_M_would_73 : Dc m_M_would 73 (.aload_n 0) 1 74 := ⟨by decide +kernel, rfl⟩
set_option maxRecDepth 100000 in
theorem d_M_would_74 : Dc m_M_would 74 (.getfield 164) 3 77 := ⟨by decide +kernel, rfl⟩
set_option maxRecDepth 100000 in
theorem d_M_would_77 : Dj m_M_would 77 .goto 80 84 := ⟨7, by decide +kernel, rfl, by decide⟩
set_option maxRecDepth 100000 in
theorem d_M_would_80 : Dc m_M_would 80 (.aload_n 0) 1 81 := ⟨by decide +kernel, rfl⟩
set_option maxRecDepth 100000 in
theorem d_M_would_81 : Dc m_M_would 81 (.getfield 158) 3 84 := ⟨by decide +kernel, rfl⟩
set_option maxRecDepth 100000 in
theorem d_M_would_84 : Dc m_M_would 84 .ireturn 1 85 := ⟨by decide +kernel, rfl⟩
set_option maxRecDepth 100000 in
theorem d_M_firmBecomes_0 : Dc m_M_firmBecomes 0 (.aload_n 0) 1 1 := ⟨by decide +kernel, rfl⟩
set_option maxRecDepth 100000 in
theorem d_M_firmBecomes_1 : Dc m_M_firmBecomes 1 (.getfield 7) 3 4 := ⟨by decide +kernel, rfl⟩
set_option maxRecDepth 100000 in
theorem d_M_firmBecomes_4 : Dc m_M_firmBecomes 4 (.aload_n 0) 1 5 := ⟨by decide +kernel, rfl⟩
set_option maxRecDepth 100000 in
theorem d_M_firmBecomes_5 : Dc m_M_firmBecomes 5 (.iload_n 1) 1 6 := ⟨by decide +kernel, rfl⟩
set_option maxRecDepth 100000 in
theorem d_M_firmBecomes_6 : Dc m_M_firmBecomes 6 (.iload_n 2) 1 7 := ⟨by decide +kernel, rfl⟩
set_option maxRecDepth 100000 in
theorem d_M_firmBecomes_7 : Dc m_M_firmBecomes 7 (.invokevirtual 109) 3 10 := ⟨by decide +kernel, rfl⟩
set_option maxRecDepth 100000 in
theorem d_M_firmBecomes_10 : Dc m_M_firmBecomes 10 (.iload_n 3) 1 11 := ⟨by decide +kernel, rfl⟩
set_option maxRecDepth 100000 in
theorem d_M_firmBecomes_11 : Dc m_M_firmBecomes 11 (.invokestatic 139) 3 14 := ⟨by decide +kernel, rfl⟩
set_option maxRecDepth 100000 in
theorem d_M_firmBecomes_14 : Dc m_M_firmBecomes 14 .iastore 1 15 := ⟨by decide +kernel, rfl⟩
set_option maxRecDepth 100000 in
theorem d_M_firmBecomes_15 : Dc m_M_firmBecomes 15 .return_ 1 16 := ⟨by decide +kernel, rfl⟩
set_option maxRecDepth 100000 in
theorem d_M_asked_0 : Dc m_M_asked 0 (.aload_n 0) 1 1 := ⟨by decide +kernel, rfl⟩
set_option maxRecDepth 100000 in
theorem d_M_asked_1 : Dc m_M_asked 1 (.iload_n 1) 1 2 := ⟨by decide +kernel, rfl⟩
set_option maxRecDepth 100000 in
theorem d_M_asked_2 : Dc m_M_asked 2 (.iload_n 2) 1 3 := ⟨by decide +kernel, rfl⟩
set_option maxRecDepth 100000 in
theorem d_M_asked_3 : Dc m_M_asked 3 (.iload_n 3) 1 4 := ⟨by decide +kernel, rfl⟩
set_option maxRecDepth 100000 in
theorem d_M_asked_4 : Dc m_M_asked 4 (.invokevirtual 173) 3 7 := ⟨by decide +kernel, rfl⟩
set_option maxRecDepth 100000 in
theorem d_M_asked_7 : Dc m_M_asked 7 (.aload_n 0) 1 8 := ⟨by decide +kernel, rfl⟩
set_option maxRecDepth 100000 in
theorem d_M_asked_8 : Dc m_M_asked 8 (.iload_n 1) 1 9 := ⟨by decide +kernel, rfl⟩
set_option maxRecDepth 100000 in
theorem d_M_asked_9 : Dc m_M_asked 9 (.iload_n 2) 1 10 := ⟨by decide +kernel, rfl⟩
set_option maxRecDepth 100000 in
theorem d_M_asked_10 : Dc m_M_asked 10 (.invokevirtual 109) 3 13 := ⟨by decide +kernel, rfl⟩
set_option maxRecDepth 100000 in
theorem d_M_asked_13 : Dc m_M_asked 13 (.istore 4) 2 15 := ⟨by decide +kernel, rfl⟩
set_option maxRecDepth 100000 in
theorem d_M_asked_15 : Dc m_M_asked 15 (.aload_n 0) 1 16 := ⟨by decide +kernel, rfl⟩
set_option maxRecDepth 100000 in
theorem d_M_asked_16 : Dc m_M_asked 16 (.getfield 161) 3 19 := ⟨by decide +kernel, rfl⟩
set_option maxRecDepth 100000 in
theorem d_M_asked_19 : Dc m_M_asked 19 (.iconst 1) 1 20 := ⟨by decide +kernel, rfl⟩
set_option maxRecDepth 100000 in
theorem d_M_asked_20 : Dj m_M_asked 20 (.if_icmp .gt) 23 104 := ⟨84, by decide +kernel, rfl, by decide⟩
set_option maxRecDepth 100000 in
theorem d_M_asked_23 : Dc m_M_asked 23 (.aload_n 0) 1 24 := ⟨by decide +kernel, rfl⟩
set_option maxRecDepth 100000 in
theorem d_M_asked_24 : Dc m_M_asked 24 (.iload_n 1) 1 25 := ⟨by decide +kernel, rfl⟩
set_option maxRecDepth 100000 in
theorem d_M_asked_25 : Dc m_M_asked 25 (.iload_n 2) 1 26 := ⟨by decide +kernel, rfl⟩
set_option maxRecDepth 100000 in
theorem d_M_asked_26 : Dc m_M_asked 26 (.aload_n 0) 1 27 := ⟨by decide +kernel, rfl⟩
set_option maxRecDepth 100000 in
theorem d_M_asked_27 : Dc m_M_asked 27 (.getfield 7) 3 30 := ⟨by decide +kernel, rfl⟩
set_option maxRecDepth 100000 in
theorem d_M_asked_30 : Dc m_M_asked 30 (.iload 4) 2 32 := ⟨by decide +kernel, rfl⟩
set_option maxRecDepth 100000 in
theorem d_M_asked_32 : Dc m_M_asked 32 .iaload 1 33 := ⟨by decide +kernel, rfl⟩
set_option maxRecDepth 100000 in
theorem d_M_asked_33 : Dc m_M_asked 33 (.bipush (100)) 2 35 := ⟨by decide +kernel, rfl⟩
set_option maxRecDepth 100000 in
theorem d_M_asked_35 : Dc m_M_asked 35 (.aload_n 0) 1 36 := ⟨by decide +kernel, rfl⟩
set_option maxRecDepth 100000 in
theorem d_M_asked_36 : Dc m_M_asked 36 (.getfield 7) 3 39 := ⟨by decide +kernel, rfl⟩
set_option maxRecDepth 100000 in
theorem d_M_asked_39 : Dc m_M_asked 39 (.iload 4) 2 41 := ⟨by decide +kernel, rfl⟩
set_option maxRecDepth 100000 in
theorem d_M_asked_41 : Dc m_M_asked 41 .iaload 1 42 := ⟨by decide +kernel, rfl⟩
set_option maxRecDepth 100000 in
theorem d_M_asked_42 : Dc m_M_asked 42 .isub 1 43 := ⟨by decide +kernel, rfl⟩
set_option maxRecDepth 100000 in
theorem d_M_asked_43 : Dc m_M_asked 43 (.iconst 4) 1 44 := ⟨by decide +kernel, rfl⟩
set_option maxRecDepth 100000 in
theorem d_M_asked_44 : Dc m_M_asked 44 .idiv 1 45 := ⟨by decide +kernel, rfl⟩
set_option maxRecDepth 100000 in
theorem d_M_asked_45 : Dc m_M_asked 45 .iadd 1 46 := ⟨by decide +kernel, rfl⟩
set_option maxRecDepth 100000 in
theorem d_M_asked_46 : Dc m_M_asked 46 (.iconst 1) 1 47 := ⟨by decide +kernel, rfl⟩
set_option maxRecDepth 100000 in
theorem d_M_asked_47 : Dc m_M_asked 47 .iadd 1 48 := ⟨by decide +kernel, rfl⟩
set_option maxRecDepth 100000 in
theorem d_M_asked_48 : Dc m_M_asked 48 (.invokevirtual 180) 3 51 := ⟨by decide +kernel, rfl⟩
set_option maxRecDepth 100000 in
theorem d_M_asked_51 : Dc m_M_asked 51 (.aload_n 0) 1 52 := ⟨by decide +kernel, rfl⟩
set_option maxRecDepth 100000 in
theorem d_M_asked_52 : Dc m_M_asked 52 (.getfield 7) 3 55 := ⟨by decide +kernel, rfl⟩
set_option maxRecDepth 100000 in
theorem d_M_asked_55 : Dc m_M_asked 55 (.iload 4) 2 57 := ⟨by decide +kernel, rfl⟩
set_option maxRecDepth 100000 in
theorem d_M_asked_57 : Dc m_M_asked 57 (.iconst 2) 1 58 := ⟨by decide +kernel, rfl⟩
set_option maxRecDepth 100000 in
theorem d_M_asked_58 : Dc m_M_asked 58 .iadd 1 59 := ⟨by decide +kernel, rfl⟩
set_option maxRecDepth 100000 in
theorem d_M_asked_59 : Dc m_M_asked 59 .iaload 1 60 := ⟨by decide +kernel, rfl⟩
set_option maxRecDepth 100000 in
theorem d_M_asked_60 : Dc m_M_asked 60 (.aload_n 0) 1 61 := ⟨by decide +kernel, rfl⟩
set_option maxRecDepth 100000 in
theorem d_M_asked_61 : Dc m_M_asked 61 (.getfield 7) 3 64 := ⟨by decide +kernel, rfl⟩
set_option maxRecDepth 100000 in
theorem d_M_asked_64 : Dc m_M_asked 64 (.aload_n 0) 1 65 := ⟨by decide +kernel, rfl⟩
set_option maxRecDepth 100000 in
theorem d_M_asked_65 : Dc m_M_asked 65 (.getfield 106) 3 68 := ⟨by decide +kernel, rfl⟩
set_option maxRecDepth 100000 in
theorem d_M_asked_68 : Dc m_M_asked 68 (.iconst 1) 1 69 := ⟨by decide +kernel, rfl⟩
set_option maxRecDepth 100000 in
theorem d_M_asked_69 : Dc m_M_asked 69 .iadd 1 70 := ⟨by decide +kernel, rfl⟩
set_option maxRecDepth 100000 in
theorem d_M_asked_70 : Dc m_M_asked 70 .iaload 1 71 := ⟨by decide +kernel, rfl⟩
set_option maxRecDepth 100000 in
theorem d_M_asked_71 : Dj m_M_asked 71 (.if_icmp .eq) 74 147 := ⟨76, by decide +kernel, rfl, by decide⟩
set_option maxRecDepth 100000 in
theorem d_M_asked_74 : Dc m_M_asked 74 (.aload_n 0) 1 75 := ⟨by decide +kernel, rfl⟩
set_option maxRecDepth 100000 in
theorem d_M_asked_75 : Dc m_M_asked 75 (.getfield 7) 3 78 := ⟨by decide +kernel, rfl⟩
set_option maxRecDepth 100000 in
theorem d_M_asked_78 : Dc m_M_asked 78 (.iload 4) 2 80 := ⟨by decide +kernel, rfl⟩
set_option maxRecDepth 100000 in
theorem d_M_asked_80 : Dc m_M_asked 80 (.iconst 1) 1 81 := ⟨by decide +kernel, rfl⟩
set_option maxRecDepth 100000 in
theorem d_M_asked_81 : Dc m_M_asked 81 .iadd 1 82 := ⟨by decide +kernel, rfl⟩
set_option maxRecDepth 100000 in
theorem d_M_asked_82 : Dc m_M_asked 82 .iaload 1 83 := ⟨by decide +kernel, rfl⟩
set_option maxRecDepth 100000 in
theorem d_M_asked_83 : Dc m_M_asked 83 (.bipush (9)) 2 85 := ⟨by decide +kernel, rfl⟩
set_option maxRecDepth 100000 in
theorem d_M_asked_85 : Dj m_M_asked 85 (.if_icmp .ge) 88 147 := ⟨62, by decide +kernel, rfl, by decide⟩
set_option maxRecDepth 100000 in
theorem d_M_asked_88 : Dc m_M_asked 88 (.aload_n 0) 1 89 := ⟨by decide +kernel, rfl⟩
set_option maxRecDepth 100000 in
theorem d_M_asked_89 : Dc m_M_asked 89 (.getfield 7) 3 92 := ⟨by decide +kernel, rfl⟩
set_option maxRecDepth 100000 in
theorem d_M_asked_92 : Dc m_M_asked 92 (.iload 4) 2 94 := ⟨by decide +kernel, rfl⟩
set_option maxRecDepth 100000 in
theorem d_M_asked_94 : Dc m_M_asked 94 (.iconst 1) 1 95 := ⟨by decide +kernel, rfl⟩
set_option maxRecDepth 100000 in
theorem d_M_asked_95 : Dc m_M_asked 95 .iadd 1 96 := ⟨by decide +kernel, rfl⟩
set_option maxRecDepth 100000 in
theorem d_M_asked_96 : Dc m_M_asked 96 .dup2 1 97 := ⟨by decide +kernel, rfl⟩
set_option maxRecDepth 100000 in
theorem d_M_asked_97 : Dc m_M_asked 97 .iaload 1 98 := ⟨by decide +kernel, rfl⟩
set_option maxRecDepth 100000 in
theorem d_M_asked_98 : Dc m_M_asked 98 (.iconst 1) 1 99 := ⟨by decide +kernel, rfl⟩
set_option maxRecDepth 100000 in
theorem d_M_asked_99 : Dc m_M_asked 99 .iadd 1 100 := ⟨by decide +kernel, rfl⟩
set_option maxRecDepth 100000 in
theorem d_M_asked_100 : Dc m_M_asked 100 .iastore 1 101 := ⟨by decide +kernel, rfl⟩
set_option maxRecDepth 100000 in
theorem d_M_asked_101 : Dj m_M_asked 101 .goto 104 147 := ⟨46, by decide +kernel, rfl, by decide⟩
set_option maxRecDepth 100000 in
theorem d_M_asked_104 : Dc m_M_asked 104 (.aload_n 0) 1 105 := ⟨by decide +kernel, rfl⟩
set_option maxRecDepth 100000 in
theorem d_M_asked_105 : Dc m_M_asked 105 (.getfield 161) 3 108 := ⟨by decide +kernel, rfl⟩
set_option maxRecDepth 100000 in
theorem d_M_asked_108 : Dc m_M_asked 108 (.iconst 2) 1 109 := ⟨by decide +kernel, rfl⟩
set_option maxRecDepth 100000 in
theorem d_M_asked_109 : Dj m_M_asked 109 (.if_icmp .ne) 112 147 := ⟨38, by decide +kernel, rfl, by decide⟩
set_option maxRecDepth 100000 in
theorem d_M_asked_112 : Dc m_M_asked 112 (.aload_n 0) 1 113 := ⟨by decide +kernel, rfl⟩
set_option maxRecDepth 100000 in
theorem d_M_asked_113 : Dc m_M_asked 113 (.iload_n 1) 1 114 := ⟨by decide +kernel, rfl⟩
set_option maxRecDepth 100000 in
theorem d_M_asked_114 : Dc m_M_asked 114 (.iload_n 2) 1 115 := ⟨by decide +kernel, rfl⟩
set_option maxRecDepth 100000 in
theorem d_M_asked_115 : Dc m_M_asked 115 (.aload_n 0) 1 116 := ⟨by decide +kernel, rfl⟩
set_option maxRecDepth 100000 in
theorem d_M_asked_116 : Dc m_M_asked 116 (.getfield 7) 3 119 := ⟨by decide +kernel, rfl⟩
set_option maxRecDepth 100000 in
theorem d_M_asked_119 : Dc m_M_asked 119 (.iload 4) 2 121 := ⟨by decide +kernel, rfl⟩
set_option maxRecDepth 100000 in
theorem d_M_asked_121 : Dc m_M_asked 121 .iaload 1 122 := ⟨by decide +kernel, rfl⟩
set_option maxRecDepth 100000 in
theorem d_M_asked_122 : Dc m_M_asked 122 (.iconst 1) 1 123 := ⟨by decide +kernel, rfl⟩
set_option maxRecDepth 100000 in
theorem d_M_asked_123 : Dc m_M_asked 123 .isub 1 124 := ⟨by decide +kernel, rfl⟩
set_option maxRecDepth 100000 in
theorem d_M_asked_124 : Dc m_M_asked 124 (.invokevirtual 180) 3 127 := ⟨by decide +kernel, rfl⟩
set_option maxRecDepth 100000 in
theorem d_M_asked_127 : Dc m_M_asked 127 (.aload_n 0) 1 128 := ⟨by decide +kernel, rfl⟩
set_option maxRecDepth 100000 in
theorem d_M_asked_128 : Dc m_M_asked 128 (.iload_n 1) 1 129 := ⟨by decide +kernel, rfl⟩
set_option maxRecDepth 100000 in
theorem d_M_asked_129 : Dc m_M_asked 129 (.aload_n 0) 1 130 := ⟨by decide +kernel, rfl⟩
set_option maxRecDepth 100000 in
theorem d_M_asked_130 : Dc m_M_asked 130 (.getfield 158) 3 133 := ⟨by decide +kernel, rfl⟩
set_option maxRecDepth 100000 in
theorem d_M_asked_133 : Dc m_M_asked 133 (.aload_n 0) 1 134 := ⟨by decide +kernel, rfl⟩
set_option maxRecDepth 100000 in
theorem d_M_asked_134 : Dc m_M_asked 134 (.iload_n 1) 1 135 := ⟨by decide +kernel, rfl⟩
set_option maxRecDepth 100000 in
theorem d_M_asked_135 : Dc m_M_asked 135 (.aload_n 0) 1 136 := ⟨by decide +kernel, rfl⟩
set_option maxRecDepth 100000 in
theorem d_M_asked_136 : Dc m_M_asked 136 (.getfield 158) 3 139 := ⟨by decide +kernel, rfl⟩
set_option maxRecDepth 100000 in
theorem d_M_asked_139 : Dc m_M_asked 139 (.invokevirtual 112) 3 142 := ⟨by decide +kernel, rfl⟩
set_option maxRecDepth 100000 in
theorem d_M_asked_142 : Dc m_M_asked 142 (.iconst 1) 1 143 := ⟨by decide +kernel, rfl⟩
set_option maxRecDepth 100000 in
theorem d_M_asked_143 : Dc m_M_asked 143 .iadd 1 144 := ⟨by decide +kernel, rfl⟩
set_option maxRecDepth 100000 in
theorem d_M_asked_144 : Dc m_M_asked 144 (.invokevirtual 180) 3 147 := ⟨by decide +kernel, rfl⟩
set_option maxRecDepth 100000 in
theorem d_M_asked_147 : Dc m_M_asked 147 (.aload_n 0) 1 148 := ⟨by decide +kernel, rfl⟩
set_option maxRecDepth 100000 in
theorem d_M_asked_148 : Dc m_M_asked 148 (.getfield 7) 3 151 := ⟨by decide +kernel, rfl⟩
set_option maxRecDepth 100000 in
theorem d_M_asked_151 : Dc m_M_asked 151 (.iload 4) 2 153 := ⟨by decide +kernel, rfl⟩
set_option maxRecDepth 100000 in
theorem d_M_asked_153 : Dc m_M_asked 153 (.iconst 2) 1 154 := ⟨by decide +kernel, rfl⟩
set_option maxRecDepth 100000 in
theorem d_M_asked_154 : Dc m_M_asked 154 .iadd 1 155 := ⟨by decide +kernel, rfl⟩
set_option maxRecDepth 100000 in
theorem d_M_asked_155 : Dc m_M_asked 155 (.aload_n 0) 1 156 := ⟨by decide +kernel, rfl⟩
set_option maxRecDepth 100000 in
theorem d_M_asked_156 : Dc m_M_asked 156 (.getfield 7) 3 159 := ⟨by decide +kernel, rfl⟩
set_option maxRecDepth 100000 in
theorem d_M_asked_159 : Dc m_M_asked 159 (.aload_n 0) 1 160 := ⟨by decide +kernel, rfl⟩
set_option maxRecDepth 100000 in
theorem d_M_asked_160 : Dc m_M_asked 160 (.getfield 106) 3 163 := ⟨by decide +kernel, rfl⟩
set_option maxRecDepth 100000 in
theorem d_M_asked_163 : Dc m_M_asked 163 (.iconst 1) 1 164 := ⟨by decide +kernel, rfl⟩
set_option maxRecDepth 100000 in
theorem d_M_asked_164 : Dc m_M_asked 164 .iadd 1 165 := ⟨by decide +kernel, rfl⟩
set_option maxRecDepth 100000 in
theorem d_M_asked_165 : Dc m_M_asked 165 .iaload 1 166 := ⟨by decide +kernel, rfl⟩
set_option maxRecDepth 100000 in
theorem d_M_asked_166 : Dc m_M_asked 166 .iastore 1 167 := ⟨by decide +kernel, rfl⟩
set_option maxRecDepth 100000 in
theorem d_M_asked_167 : Dc m_M_asked 167 (.aload_n 0) 1 168 := ⟨by decide +kernel, rfl⟩
set_option maxRecDepth 100000 in
theorem d_M_asked_168 : Dc m_M_asked 168 (.iload_n 2) 1 169 := ⟨by decide +kernel, rfl⟩
set_option maxRecDepth 100000 in
theorem d_M_asked_169 : Dc m_M_asked 169 (.invokevirtual 177) 3 172 := ⟨by decide +kernel, rfl⟩
set_option maxRecDepth 100000 in
theorem d_M_asked_172 : Dc m_M_asked 172 .ireturn 1 173 := ⟨by decide +kernel, rfl⟩
set_option maxRecDepth 100000 in
theorem d_M_isTold_0 : Dc m_M_isTold 0 (.aload_n 0) 1 1 := ⟨by decide +kernel, rfl⟩
set_option maxRecDepth 100000 in
theorem d_M_isTold_1 : Dc m_M_isTold 1 (.iload_n 1) 1 2 := ⟨by decide +kernel, rfl⟩
set_option maxRecDepth 100000 in
theorem d_M_isTold_2 : Dc m_M_isTold 2 (.iload_n 2) 1 3 := ⟨by decide +kernel, rfl⟩
set_option maxRecDepth 100000 in
theorem d_M_isTold_3 : Dc m_M_isTold 3 (.invokevirtual 112) 3 6 := ⟨by decide +kernel, rfl⟩
set_option maxRecDepth 100000 in
theorem d_M_isTold_6 : Dc m_M_isTold 6 (.istore_n 3) 1 7 := ⟨by decide +kernel, rfl⟩
set_option maxRecDepth 100000 in
theorem d_M_isTold_7 : Dc m_M_isTold 7 (.aload_n 0) 1 8 := ⟨by decide +kernel, rfl⟩
set_option maxRecDepth 100000 in
theorem d_M_isTold_8 : Dc m_M_isTold 8 (.iload_n 1) 1 9 := ⟨by decide +kernel, rfl⟩
set_option maxRecDepth 100000 in
theorem d_M_isTold_9 : Dc m_M_isTold 9 (.iload_n 2) 1 10 := ⟨by decide +kernel, rfl⟩
set_option maxRecDepth 100000 in
theorem d_M_isTold_10 : Dc m_M_isTold 10 (.iload_n 3) 1 11 := ⟨by decide +kernel, rfl⟩
set_option maxRecDepth 100000 in
theorem d_M_isTold_11 : Dc m_M_isTold 11 (.bipush (100)) 2 13 := ⟨by decide +kernel, rfl⟩
set_option maxRecDepth 100000 in
theorem d_M_isTold_13 : Dc m_M_isTold 13 (.iload_n 3) 1 14 := ⟨by decide +kernel, rfl⟩
set_option maxRecDepth 100000 in
theorem d_M_isTold_14 : Dc m_M_isTold 14 .isub 1 15 := ⟨by decide +kernel, rfl⟩
set_option maxRecDepth 100000 in
theorem d_M_isTold_15 : Dc m_M_isTold 15 (.bipush (6)) 2 17 := ⟨by decide +kernel, rfl⟩
set_option maxRecDepth 100000 in
theorem d_M_isTold_17 : Dc m_M_isTold 17 .idiv 1 18 := ⟨by decide +kernel, rfl⟩
set_option maxRecDepth 100000 in
theorem d_M_isTold_18 : Dc m_M_isTold 18 .iadd 1 19 := ⟨by decide +kernel, rfl⟩
set_option maxRecDepth 100000 in
theorem d_M_isTold_19 : Dc m_M_isTold 19 (.iconst 1) 1 20 := ⟨by decide +kernel, rfl⟩
set_option maxRecDepth 100000 in
theorem d_M_isTold_20 : Dc m_M_isTold 20 .iadd 1 21 := ⟨by decide +kernel, rfl⟩
set_option maxRecDepth 100000 in
theorem d_M_isTold_21 : Dc m_M_isTold 21 (.invokevirtual 180) 3 24 := ⟨by decide +kernel, rfl⟩
set_option maxRecDepth 100000 in
theorem d_M_isTold_24 : Dc m_M_isTold 24 .return_ 1 25 := ⟨by decide +kernel, rfl⟩
set_option maxRecDepth 100000 in
theorem d_M_nightGoes_0 : Dc m_M_nightGoes 0 (.aload_n 0) 1 1 := ⟨by decide +kernel, rfl⟩
set_option maxRecDepth 100000 in
theorem d_M_nightGoes_1 : Dc m_M_nightGoes 1 (.getfield 7) 3 4 := ⟨by decide +kernel, rfl⟩
set_option maxRecDepth 100000 in
theorem d_M_nightGoes_4 : Dc m_M_nightGoes 4 (.aload_n 0) 1 5 := ⟨by decide +kernel, rfl⟩
set_option maxRecDepth 100000 in
theorem d_M_nightGoes_5 : Dc m_M_nightGoes 5 (.getfield 106) 3 8 := ⟨by decide +kernel, rfl⟩
set_option maxRecDepth 100000 in
theorem d_M_nightGoes_8 : Dc m_M_nightGoes 8 (.iconst 1) 1 9 := ⟨by decide +kernel, rfl⟩
set_option maxRecDepth 100000 in
theorem d_M_nightGoes_9 : Dc m_M_nightGoes 9 .iadd 1 10 := ⟨by decide +kernel, rfl⟩
set_option maxRecDepth 100000 in
theorem d_M_nightGoes_10 : Dc m_M_nightGoes 10 .dup2 1 11 := ⟨by decide +kernel, rfl⟩
set_option maxRecDepth 100000 in
theorem d_M_nightGoes_11 : Dc m_M_nightGoes 11 .iaload 1 12 := ⟨by decide +kernel, rfl⟩
set_option maxRecDepth 100000 in
theorem d_M_nightGoes_12 : Dc m_M_nightGoes 12 (.iconst 1) 1 13 := ⟨by decide +kernel, rfl⟩
set_option maxRecDepth 100000 in
theorem d_M_nightGoes_13 : Dc m_M_nightGoes 13 .iadd 1 14 := ⟨by decide +kernel, rfl⟩
set_option maxRecDepth 100000 in
theorem d_M_nightGoes_14 : Dc m_M_nightGoes 14 .iastore 1 15 := ⟨by decide +kernel, rfl⟩
set_option maxRecDepth 100000 in
theorem d_M_nightGoes_15 : Dc m_M_nightGoes 15 (.iconst 0) 1 16 := ⟨by decide +kernel, rfl⟩
set_option maxRecDepth 100000 in
theorem d_M_nightGoes_16 : Dc m_M_nightGoes 16 (.istore_n 1) 1 17 := ⟨by decide +kernel, rfl⟩
set_option maxRecDepth 100000 in
theorem d_M_nightGoes_17 : Dc m_M_nightGoes 17 (.iload_n 1) 1 18 := ⟨by decide +kernel, rfl⟩
set_option maxRecDepth 100000 in
theorem d_M_nightGoes_18 : Dc m_M_nightGoes 18 (.aload_n 0) 1 19 := ⟨by decide +kernel, rfl⟩
set_option maxRecDepth 100000 in
theorem d_M_nightGoes_19 : Dc m_M_nightGoes 19 (.getfield 7) 3 22 := ⟨by decide +kernel, rfl⟩
set_option maxRecDepth 100000 in
theorem d_M_nightGoes_22 : Dc m_M_nightGoes 22 (.aload_n 0) 1 23 := ⟨by decide +kernel, rfl⟩
set_option maxRecDepth 100000 in
theorem d_M_nightGoes_23 : Dc m_M_nightGoes 23 (.getfield 106) 3 26 := ⟨by decide +kernel, rfl⟩
set_option maxRecDepth 100000 in
theorem d_M_nightGoes_26 : Dc m_M_nightGoes 26 (.iconst 0) 1 27 := ⟨by decide +kernel, rfl⟩
set_option maxRecDepth 100000 in
theorem d_M_nightGoes_27 : Dc m_M_nightGoes 27 .iadd 1 28 := ⟨by decide +kernel, rfl⟩
set_option maxRecDepth 100000 in
theorem d_M_nightGoes_28 : Dc m_M_nightGoes 28 .iaload 1 29 := ⟨by decide +kernel, rfl⟩
set_option maxRecDepth 100000 in
theorem d_M_nightGoes_29 : Dj m_M_nightGoes 29 (.if_icmp .ge) 32 92 := ⟨63, by decide +kernel, rfl, by decide⟩
set_option maxRecDepth 100000 in
theorem d_M_nightGoes_32 : Dc m_M_nightGoes 32 (.iconst 0) 1 33 := ⟨by decide +kernel, rfl⟩
set_option maxRecDepth 100000 in
theorem d_M_nightGoes_33 : Dc m_M_nightGoes 33 (.istore_n 2) 1 34 := ⟨by decide +kernel, rfl⟩
set_option maxRecDepth 100000 in
theorem d_M_nightGoes_34 : Dc m_M_nightGoes 34 (.iload_n 2) 1 35 := ⟨by decide +kernel, rfl⟩
set_option maxRecDepth 100000 in
theorem d_M_nightGoes_35 : Dc m_M_nightGoes 35 (.bipush (36)) 2 37 := ⟨by decide +kernel, rfl⟩
set_option maxRecDepth 100000 in
theorem d_M_nightGoes_37 : Dj m_M_nightGoes 37 (.if_icmp .ge) 40 86 := ⟨49, by decide +kernel, rfl, by decide⟩
set_option maxRecDepth 100000 in
theorem d_M_nightGoes_40 : Dc m_M_nightGoes 40 (.aload_n 0) 1 41 := ⟨by decide +kernel, rfl⟩
set_option maxRecDepth 100000 in
theorem d_M_nightGoes_41 : Dc m_M_nightGoes 41 (.iload_n 1) 1 42 := ⟨by decide +kernel, rfl⟩
set_option maxRecDepth 100000 in
theorem d_M_nightGoes_42 : Dc m_M_nightGoes 42 (.iload_n 2) 1 43 := ⟨by decide +kernel, rfl⟩
set_option maxRecDepth 100000 in
theorem d_M_nightGoes_43 : Dc m_M_nightGoes 43 (.invokevirtual 112) 3 46 := ⟨by decide +kernel, rfl⟩
set_option maxRecDepth 100000 in
theorem d_M_nightGoes_46 : Dc m_M_nightGoes 46 (.istore_n 3) 1 47 := ⟨by decide +kernel, rfl⟩
set_option maxRecDepth 100000 in
theorem d_M_nightGoes_47 : Dc m_M_nightGoes 47 (.aload_n 0) 1 48 := ⟨by decide +kernel, rfl⟩
set_option maxRecDepth 100000 in
theorem d_M_nightGoes_48 : Dc m_M_nightGoes 48 (.getfield 7) 3 51 := ⟨by decide +kernel, rfl⟩
set_option maxRecDepth 100000 in
theorem d_M_nightGoes_51 : Dc m_M_nightGoes 51 (.aload_n 0) 1 52 := ⟨by decide +kernel, rfl⟩
set_option maxRecDepth 100000 in
theorem d_M_nightGoes_52 : Dc m_M_nightGoes 52 (.iload_n 1) 1 53 := ⟨by decide +kernel, rfl⟩
set_option maxRecDepth 100000 in
theorem d_M_nightGoes_53 : Dc m_M_nightGoes 53 (.iload_n 2) 1 54 := ⟨by decide +kernel, rfl⟩
set_option maxRecDepth 100000 in
theorem d_M_nightGoes_54 : Dc m_M_nightGoes 54 (.invokevirtual 109) 3 57 := ⟨by decide +kernel, rfl⟩
set_option maxRecDepth 100000 in
theorem d_M_nightGoes_57 : Dc m_M_nightGoes 57 (.iload_n 3) 1 58 := ⟨by decide +kernel, rfl⟩
set_option maxRecDepth 100000 in
theorem d_M_nightGoes_58 : Dc m_M_nightGoes 58 (.iload_n 3) 1 59 := ⟨by decide +kernel, rfl⟩
set_option maxRecDepth 100000 in
theorem d_M_nightGoes_59 : Dc m_M_nightGoes 59 (.aload_n 0) 1 60 := ⟨by decide +kernel, rfl⟩
set_option maxRecDepth 100000 in
theorem d_M_nightGoes_60 : Dc m_M_nightGoes 60 (.getfield 13) 3 63 := ⟨by decide +kernel, rfl⟩
set_option maxRecDepth 100000 in
theorem d_M_nightGoes_63 : Dc m_M_nightGoes 63 (.iconst 0) 1 64 := ⟨by decide +kernel, rfl⟩
set_option maxRecDepth 100000 in
theorem d_M_nightGoes_64 : Dc m_M_nightGoes 64 .iaload 1 65 := ⟨by decide +kernel, rfl⟩
set_option maxRecDepth 100000 in
theorem d_M_nightGoes_65 : Dc m_M_nightGoes 65 .imul 1 66 := ⟨by decide +kernel, rfl⟩
set_option maxRecDepth 100000 in
theorem d_M_nightGoes_66 : Dc m_M_nightGoes 66 (.bipush (100)) 2 68 := ⟨by decide +kernel, rfl⟩
set_option maxRecDepth 100000 in
theorem d_M_nightGoes_68 : Dc m_M_nightGoes 68 (.aload_n 0) 1 69 := ⟨by decide +kernel, rfl⟩
set_option maxRecDepth 100000 in
theorem d_M_nightGoes_69 : Dc m_M_nightGoes 69 (.iload_n 1) 1 70 := ⟨by decide +kernel, rfl⟩
set_option maxRecDepth 100000 in
theorem d_M_nightGoes_70 : Dc m_M_nightGoes 70 (.iload_n 2) 1 71 := ⟨by decide +kernel, rfl⟩
set_option maxRecDepth 100000 in
theorem d_M_nightGoes_71 : Dc m_M_nightGoes 71 (.invokevirtual 127) 3 74 := ⟨by decide +kernel, rfl⟩
set_option maxRecDepth 100000 in
theorem d_M_nightGoes_74 : Dc m_M_nightGoes 74 (.iconst 1) 1 75 := ⟨by decide +kernel, rfl⟩
set_option maxRecDepth 100000 in
theorem d_M_nightGoes_75 : Dc m_M_nightGoes 75 .iadd 1 76 := ⟨by decide +kernel, rfl⟩
set_option maxRecDepth 100000 in
theorem d_M_nightGoes_76 : Dc m_M_nightGoes 76 .imul 1 77 := ⟨by decide +kernel, rfl⟩
set_option maxRecDepth 100000 in
theorem d_M_nightGoes_77 : Dc m_M_nightGoes 77 .idiv 1 78 := ⟨by decide +kernel, rfl⟩
set_option maxRecDepth 100000 in
theorem d_M_nightGoes_78 : Dc m_M_nightGoes 78 .isub 1 79 := ⟨by decide +kernel, rfl⟩
set_option maxRecDepth 100000 in
theorem d_M_nightGoes_79 : Dc m_M_nightGoes 79 .iastore 1 80 := ⟨by decide +kernel, rfl⟩
set_option maxRecDepth 100000 in
theorem d_M_nightGoes_80 : Dc m_M_nightGoes 80 (.iinc 2 (1)) 3 83 := ⟨by decide +kernel, rfl⟩
set_option maxRecDepth 100000 in
theorem d_M_nightGoes_83 : Dj m_M_nightGoes 83 .goto 86 34 := ⟨-49, by decide +kernel, rfl, by decide⟩
set_option maxRecDepth 100000 in
theorem d_M_nightGoes_86 : Dc m_M_nightGoes 86 (.iinc 1 (1)) 3 89 := ⟨by decide +kernel, rfl⟩
set_option maxRecDepth 100000 in
theorem d_M_nightGoes_89 : Dj m_M_nightGoes 89 .goto 92 17 := ⟨-72, by decide +kernel, rfl, by decide⟩
set_option maxRecDepth 100000 in
theorem d_M_nightGoes_92 : Dc m_M_nightGoes 92 .return_ 1 93 := ⟨by decide +kernel, rfl⟩
set_option maxRecDepth 100000 in
theorem d_M_ask_0 : Dc m_M_ask 0 (.aload_n 0) 1 1 := ⟨by decide +kernel, rfl⟩
set_option maxRecDepth 100000 in
theorem d_M_ask_1 : Dc m_M_ask 1 (.iload_n 1) 1 2 := ⟨by decide +kernel, rfl⟩
set_option maxRecDepth 100000 in
theorem d_M_ask_2 : Dc m_M_ask 2 (.invokevirtual 115) 3 5 := ⟨by decide +kernel, rfl⟩
set_option maxRecDepth 100000 in
theorem d_M_ask_5 : Dj m_M_ask 5 (.ifCond .eq) 8 32 := ⟨27, by decide +kernel, rfl, by decide⟩
set_option maxRecDepth 100000 in
theorem d_M_ask_8 : Dc m_M_ask 8 (.iload_n 2) 1 9 := ⟨by decide +kernel, rfl⟩
set_option maxRecDepth 100000 in
theorem d_M_ask_9 : Dc m_M_ask 9 (.invokestatic 91) 3 12 := ⟨by decide +kernel, rfl⟩
set_option maxRecDepth 100000 in
theorem d_M_ask_12 : Dj m_M_ask 12 (.ifCond .eq) 15 32 := ⟨20, by decide +kernel, rfl, by decide⟩
set_option maxRecDepth 100000 in
theorem d_M_ask_15 : Dc m_M_ask 15 (.iload_n 3) 1 16 := ⟨by decide +kernel, rfl⟩
set_option maxRecDepth 100000 in
theorem d_M_ask_16 : Dc m_M_ask 16 (.invokestatic 142) 3 19 := ⟨by decide +kernel, rfl⟩
set_option maxRecDepth 100000 in
theorem d_M_ask_19 : Dj m_M_ask 19 (.ifCond .eq) 22 32 := ⟨13, by decide +kernel, rfl, by decide⟩
set_option maxRecDepth 100000 in
theorem d_M_ask_22 : Dc m_M_ask 22 (.aload_n 0) 1 23 := ⟨by decide +kernel, rfl⟩
set_option maxRecDepth 100000 in
theorem d_M_ask_23 : Dc m_M_ask 23 (.iload_n 1) 1 24 := ⟨by decide +kernel, rfl⟩
set_option maxRecDepth 100000 in
theorem d_M_ask_24 : Dc m_M_ask 24 (.iload_n 2) 1 25 := ⟨by decide +kernel, rfl⟩
set_option maxRecDepth 100000 in
theorem d_M_ask_25 : Dc m_M_ask 25 (.iload_n 3) 1 26 := ⟨by decide +kernel, rfl⟩
set_option maxRecDepth 100000 in
theorem d_M_ask_26 : Dc m_M_ask 26 (.invokevirtual 183) 3 29 := ⟨by decide +kernel, rfl⟩
set_option maxRecDepth 100000 in
theorem d_M_ask_29 : Dj m_M_ask 29 .goto 32 33 := ⟨4, by decide +kernel, rfl, by decide⟩
set_option maxRecDepth 100000 in
theorem d_M_ask_32 : Dc m_M_ask 32 (.iconst (-1)) 1 33 := ⟨by decide +kernel, rfl⟩
set_option maxRecDepth 100000 in
theorem d_M_ask_33 : Dc m_M_ask 33 .ireturn 1 34 := ⟨by decide +kernel, rfl⟩
set_option maxRecDepth 100000 in
theorem d_M_tell_0 : Dc m_M_tell 0 (.aload_n 0) 1 1 := ⟨by decide +kernel, rfl⟩
set_option maxRecDepth 100000 in
theorem d_M_tell_1 : Dc m_M_tell 1 (.iload_n 1) 1 2 := ⟨by decide +kernel, rfl⟩
set_option maxRecDepth 100000 in
theorem d_M_tell_2 : Dc m_M_tell 2 (.invokevirtual 115) 3 5 := ⟨by decide +kernel, rfl⟩
set_option maxRecDepth 100000 in
theorem d_M_tell_5 : Dj m_M_tell 5 (.ifCond .eq) 8 15 := ⟨10, by decide +kernel, rfl, by decide⟩
set_option maxRecDepth 100000 in
theorem d_M_tell_8 : Dc m_M_tell 8 (.iload_n 2) 1 9 := ⟨by decide +kernel, rfl⟩
set_option maxRecDepth 100000 in
theorem d_M_tell_9 : Dc m_M_tell 9 (.invokestatic 91) 3 12 := ⟨by decide +kernel, rfl⟩
set_option maxRecDepth 100000 in
theorem d_M_tell_12 : Dj m_M_tell 12 (.ifCond .ne) 15 17 := ⟨5, by decide +kernel, rfl, by decide⟩
set_option maxRecDepth 100000 in
theorem d_M_tell_15 : Dc m_M_tell 15 (.iconst (-1)) 1 16 := ⟨by decide +kernel, rfl⟩
set_option maxRecDepth 100000 in
theorem d_M_tell_16 : Dc m_M_tell 16 .ireturn 1 17 := ⟨by decide +kernel, rfl⟩
set_option maxRecDepth 100000 in
theorem d_M_tell_17 : Dc m_M_tell 17 (.aload_n 0) 1 18 := ⟨by decide +kernel, rfl⟩
set_option maxRecDepth 100000 in
theorem d_M_tell_18 : Dc m_M_tell 18 (.iload_n 1) 1 19 := ⟨by decide +kernel, rfl⟩
set_option maxRecDepth 100000 in
theorem d_M_tell_19 : Dc m_M_tell 19 (.iload_n 2) 1 20 := ⟨by decide +kernel, rfl⟩
set_option maxRecDepth 100000 in
theorem d_M_tell_20 : Dc m_M_tell 20 (.invokevirtual 186) 3 23 := ⟨by decide +kernel, rfl⟩
set_option maxRecDepth 100000 in
theorem d_M_tell_23 : Dc m_M_tell 23 (.aload_n 0) 1 24 := ⟨by decide +kernel, rfl⟩
set_option maxRecDepth 100000 in
theorem d_M_tell_24 : Dc m_M_tell 24 (.iload_n 1) 1 25 := ⟨by decide +kernel, rfl⟩
set_option maxRecDepth 100000 in
theorem d_M_tell_25 : Dc m_M_tell 25 (.iload_n 2) 1 26 := ⟨by decide +kernel, rfl⟩
set_option maxRecDepth 100000 in
theorem d_M_tell_26 : Dc m_M_tell 26 (.invokevirtual 112) 3 29 := ⟨by decide +kernel, rfl⟩
set_option maxRecDepth 100000 in
theorem d_M_tell_29 : Dc m_M_tell 29 .ireturn 1 30 := ⟨by decide +kernel, rfl⟩
set_option maxRecDepth 100000 in
theorem d_M_nights_0 : Dc m_M_nights 0 (.iload_n 1) 1 1 := ⟨by decide +kernel, rfl⟩
set_option maxRecDepth 100000 in
theorem d_M_nights_1 : Dc m_M_nights 1 (.iconst 0) 1 2 := ⟨by decide +kernel, rfl⟩
set_option maxRecDepth 100000 in
theorem d_M_nights_2 : Dc m_M_nights 2 (.bipush (30)) 2 4 := ⟨by decide +kernel, rfl⟩
set_option maxRecDepth 100000 in
theorem d_M_nights_4 : Dc m_M_nights 4 (.invokestatic 72) 3 7 := ⟨by decide +kernel, rfl⟩
set_option maxRecDepth 100000 in
theorem d_M_nights_7 : Dj m_M_nights 7 (.ifCond .ne) 10 12 := ⟨5, by decide +kernel, rfl, by decide⟩
set_option maxRecDepth 100000 in
theorem d_M_nights_10 : Dc m_M_nights 10 (.iconst (-1)) 1 11 := ⟨by decide +kernel, rfl⟩
set_option maxRecDepth 100000 in
theorem d_M_nights_11 : Dc m_M_nights 11 .ireturn 1 12 := ⟨by decide +kernel, rfl⟩
set_option maxRecDepth 100000 in
theorem d_M_nights_12 : Dc m_M_nights 12 (.iconst 0) 1 13 := ⟨by decide +kernel, rfl⟩
set_option maxRecDepth 100000 in
theorem d_M_nights_13 : Dc m_M_nights 13 (.istore_n 2) 1 14 := ⟨by decide +kernel, rfl⟩
set_option maxRecDepth 100000 in
theorem d_M_nights_14 : Dc m_M_nights 14 (.iload_n 2) 1 15 := ⟨by decide +kernel, rfl⟩
set_option maxRecDepth 100000 in
theorem d_M_nights_15 : Dc m_M_nights 15 (.iload_n 1) 1 16 := ⟨by decide +kernel, rfl⟩
set_option maxRecDepth 100000 in
theorem d_M_nights_16 : Dj m_M_nights 16 (.if_icmp .ge) 19 29 := ⟨13, by decide +kernel, rfl, by decide⟩
set_option maxRecDepth 100000 in
theorem d_M_nights_19 : Dc m_M_nights 19 (.aload_n 0) 1 20 := ⟨by decide +kernel, rfl⟩
set_option maxRecDepth 100000 in
theorem d_M_nights_20 : Dc m_M_nights 20 (.invokevirtual 190) 3 23 := ⟨by decide +kernel, rfl⟩
set_option maxRecDepth 100000 in
theorem d_M_nights_23 : Dc m_M_nights 23 (.iinc 2 (1)) 3 26 := ⟨by decide +kernel, rfl⟩
set_option maxRecDepth 100000 in
theorem d_M_nights_26 : Dj m_M_nights 26 .goto 29 14 := ⟨-12, by decide +kernel, rfl, by decide⟩
set_option maxRecDepth 100000 in
theorem d_M_nights_29 : Dc m_M_nights 29 (.aload_n 0) 1 30 := ⟨by decide +kernel, rfl⟩
set_option maxRecDepth 100000 in
theorem d_M_nights_30 : Dc m_M_nights 30 (.getfield 7) 3 33 := ⟨by decide +kernel, rfl⟩
set_option maxRecDepth 100000 in
theorem d_M_nights_33 : Dc m_M_nights 33 (.iconst 1) 1 34 := ⟨by decide +kernel, rfl⟩
set_option maxRecDepth 100000 in
theorem d_M_nights_34 : Dc m_M_nights 34 .iaload 1 35 := ⟨by decide +kernel, rfl⟩
set_option maxRecDepth 100000 in
theorem d_M_nights_35 : Dc m_M_nights 35 .ireturn 1 36 := ⟨by decide +kernel, rfl⟩
set_option maxRecDepth 100000 in
theorem d_M_card_0 : Dc m_M_card 0 (.aload_n 0) 1 1 := ⟨by decide +kernel, rfl⟩
set_option maxRecDepth 100000 in
theorem d_M_card_1 : Dc m_M_card 1 (.iload_n 1) 1 2 := ⟨by decide +kernel, rfl⟩
set_option maxRecDepth 100000 in
theorem d_M_card_2 : Dc m_M_card 2 (.invokevirtual 115) 3 5 := ⟨by decide +kernel, rfl⟩
set_option maxRecDepth 100000 in
theorem d_M_card_5 : Dj m_M_card 5 (.ifCond .ne) 8 10 := ⟨5, by decide +kernel, rfl, by decide⟩
set_option maxRecDepth 100000 in
theorem d_M_card_8 : Dc m_M_card 8 (.iconst (-1)) 1 9 := ⟨by decide +kernel, rfl⟩
set_option maxRecDepth 100000 in
theorem d_M_card_9 : Dc m_M_card 9 .ireturn 1 10 := ⟨by decide +kernel, rfl⟩
set_option maxRecDepth 100000 in
theorem d_M_card_10 : Dc m_M_card 10 (.iconst 0) 1 11 := ⟨by decide +kernel, rfl⟩
set_option maxRecDepth 100000 in
theorem d_M_card_11 : Dc m_M_card 11 (.istore_n 2) 1 12 := ⟨by decide +kernel, rfl⟩
set_option maxRecDepth 100000 in
theorem d_M_card_12 : Dc m_M_card 12 (.iconst 1) 1 13 := ⟨by decide +kernel, rfl⟩
set_option maxRecDepth 100000 in
theorem d_M_card_13 : Dc m_M_card 13 (.istore_n 3) 1 14 := ⟨by decide +kernel, rfl⟩
set_option maxRecDepth 100000 in
theorem d_M_card_14 : Dc m_M_card 14 (.iload_n 3) 1 15 := ⟨by decide +kernel, rfl⟩
set_option maxRecDepth 100000 in
theorem d_M_card_15 : Dc m_M_card 15 (.bipush (36)) 2 17 := ⟨by decide +kernel, rfl⟩
set_option maxRecDepth 100000 in
theorem d_M_card_17 : Dj m_M_card 17 (.if_icmp .ge) 20 47 := ⟨30, by decide +kernel, rfl, by decide⟩
set_option maxRecDepth 100000 in
theorem d_M_card_20 : Dc m_M_card 20 (.aload_n 0) 1 21 := ⟨by decide +kernel, rfl⟩
set_option maxRecDepth 100000 in
theorem d_M_card_21 : Dc m_M_card 21 (.iload_n 1) 1 22 := ⟨by decide +kernel, rfl⟩
set_option maxRecDepth 100000 in
theorem d_M_card_22 : Dc m_M_card 22 (.iload_n 3) 1 23 := ⟨by decide +kernel, rfl⟩
set_option maxRecDepth 100000 in
theorem d_M_card_23 : Dc m_M_card 23 (.invokevirtual 136) 3 26 := ⟨by decide +kernel, rfl⟩
set_option maxRecDepth 100000 in
theorem d_M_card_26 : Dc m_M_card 26 (.aload_n 0) 1 27 := ⟨by decide +kernel, rfl⟩
set_option maxRecDepth 100000 in
theorem d_M_card_27 : Dc m_M_card 27 (.iload_n 1) 1 28 := ⟨by decide +kernel, rfl⟩
set_option maxRecDepth 100000 in
theorem d_M_card_28 : Dc m_M_card 28 (.iload_n 2) 1 29 := ⟨by decide +kernel, rfl⟩
set_option maxRecDepth 100000 in
theorem d_M_card_29 : Dc m_M_card 29 (.invokevirtual 136) 3 32 := ⟨by decide +kernel, rfl⟩
set_option maxRecDepth 100000 in
theorem d_M_card_32 : Dj m_M_card 32 (.if_icmp .ge) 35 39 := ⟨7, by decide +kernel, rfl, by decide⟩
set_option maxRecDepth 100000 in
theorem d_M_card_35 : Dc m_M_card 35 (.iload_n 3) 1 36 := ⟨by decide +kernel, rfl⟩
set_option maxRecDepth 100000 in
theorem d_M_card_36 : Dj m_M_card 36 .goto 39 40 := ⟨4, by decide +kernel, rfl, by decide⟩
set_option maxRecDepth 100000 in
theorem d_M_card_39 : Dc m_M_card 39 (.iload_n 2) 1 40 := ⟨by decide +kernel, rfl⟩
set_option maxRecDepth 100000 in
theorem d_M_card_40 : Dc m_M_card 40 (.istore_n 2) 1 41 := ⟨by decide +kernel, rfl⟩
set_option maxRecDepth 100000 in
theorem d_M_card_41 : Dc m_M_card 41 (.iinc 3 (1)) 3 44 := ⟨by decide +kernel, rfl⟩
set_option maxRecDepth 100000 in
theorem d_M_card_44 : Dj m_M_card 44 .goto 47 14 := ⟨-30, by decide +kernel, rfl, by decide⟩
set_option maxRecDepth 100000 in
theorem d_M_card_47 : Dc m_M_card 47 (.aload_n 0) 1 48 := ⟨by decide +kernel, rfl⟩
set_option maxRecDepth 100000 in
theorem d_M_card_48 : Dc m_M_card 48 (.iload_n 1) 1 49 := ⟨by decide +kernel, rfl⟩
set_option maxRecDepth 100000 in
theorem d_M_card_49 : Dc m_M_card 49 (.iload_n 2) 1 50 := ⟨by decide +kernel, rfl⟩
set_option maxRecDepth 100000 in
theorem d_M_card_50 : Dc m_M_card 50 (.invokevirtual 136) 3 53 := ⟨by decide +kernel, rfl⟩
set_option maxRecDepth 100000 in
theorem d_M_card_53 : Dc m_M_card 53 (.aload_n 0) 1 54 := ⟨by decide +kernel, rfl⟩
set_option maxRecDepth 100000 in
theorem d_M_card_54 : Dc m_M_card 54 (.getfield 7) 3 57 := ⟨by decide +kernel, rfl⟩
set_option maxRecDepth 100000 in
theorem d_M_card_57 : Dc m_M_card 57 (.iconst 1) 1 58 := ⟨by decide +kernel, rfl⟩
set_option maxRecDepth 100000 in
theorem d_M_card_58 : Dc m_M_card 58 .iaload 1 59 := ⟨by decide +kernel, rfl⟩
set_option maxRecDepth 100000 in
theorem d_M_card_59 : Dj m_M_card 59 (.if_icmp .le) 62 67 := ⟨8, by decide +kernel, rfl, by decide⟩
set_option maxRecDepth 100000 in
theorem d_M_card_62 : Dc m_M_card 62 (.bipush (-3)) 2 64 := ⟨by decide +kernel, rfl⟩
set_option maxRecDepth 100000 in
theorem d_M_card_64 : Dj m_M_card 64 .goto 67 68 := ⟨4, by decide +kernel, rfl, by decide⟩
set_option maxRecDepth 100000 in
theorem d_M_card_67 : Dc m_M_card 67 (.iload_n 2) 1 68 := ⟨by decide +kernel, rfl⟩
set_option maxRecDepth 100000 in
theorem d_M_card_68 : Dc m_M_card 68 .ireturn 1 69 := ⟨by decide +kernel, rfl⟩
set_option maxRecDepth 100000 in
theorem d_M_isKnown_0 : Dc m_M_isKnown 0 (.aload_n 0) 1 1 := ⟨by decide +kernel, rfl⟩
set_option maxRecDepth 100000 in
theorem d_M_isKnown_1 : Dc m_M_isKnown 1 (.iload_n 1) 1 2 := ⟨by decide +kernel, rfl⟩
set_option maxRecDepth 100000 in
theorem d_M_isKnown_2 : Dc m_M_isKnown 2 (.iload_n 2) 1 3 := ⟨by decide +kernel, rfl⟩
set_option maxRecDepth 100000 in
theorem d_M_isKnown_3 : Dc m_M_isKnown 3 (.iload_n 3) 1 4 := ⟨by decide +kernel, rfl⟩
set_option maxRecDepth 100000 in
theorem d_M_isKnown_4 : Dc m_M_isKnown 4 (.invokevirtual 155) 3 7 := ⟨by decide +kernel, rfl⟩
set_option maxRecDepth 100000 in
theorem d_M_isKnown_7 : Dj m_M_isKnown 7 (.ifCond .ne) 10 20 := ⟨13, by decide +kernel, rfl, by decide⟩
set_option maxRecDepth 100000 in
theorem d_M_isKnown_10 : Dc m_M_isKnown 10 (.aload_n 0) 1 11 := ⟨by decide +kernel, rfl⟩
set_option maxRecDepth 100000 in
theorem d_M_isKnown_11 : Dc m_M_isKnown 11 (.iload_n 1) 1 12 := ⟨by decide +kernel, rfl⟩
set_option maxRecDepth 100000 in
theorem d_M_isKnown_12 : Dc m_M_isKnown 12 (.iload_n 2) 1 13 := ⟨by decide +kernel, rfl⟩
set_option maxRecDepth 100000 in
theorem d_M_isKnown_13 : Dc m_M_isKnown 13 (.iload_n 3) 1 14 := ⟨by decide +kernel, rfl⟩
set_option maxRecDepth 100000 in
theorem d_M_isKnown_14 : Dc m_M_isKnown 14 (.invokevirtual 167) 3 17 := ⟨by decide +kernel, rfl⟩
set_option maxRecDepth 100000 in
theorem d_M_isKnown_17 : Dj m_M_isKnown 17 (.ifCond .lt) 20 24 := ⟨7, by decide +kernel, rfl, by decide⟩
set_option maxRecDepth 100000 in
theorem d_M_isKnown_20 : Dc m_M_isKnown 20 (.iconst 1) 1 21 := ⟨by decide +kernel, rfl⟩
set_option maxRecDepth 100000 in
theorem d_M_isKnown_21 : Dj m_M_isKnown 21 .goto 24 25 := ⟨4, by decide +kernel, rfl, by decide⟩
set_option maxRecDepth 100000 in
theorem d_M_isKnown_24 : Dc m_M_isKnown 24 (.iconst 0) 1 25 := ⟨by decide +kernel, rfl⟩
set_option maxRecDepth 100000 in
theorem d_M_isKnown_25 : Dc m_M_isKnown 25 .ireturn 1 26 := ⟨by decide +kernel, rfl⟩
set_option maxRecDepth 100000 in
theorem d_M_knownSet_0 : Dc m_M_knownSet 0 (.lconst 0) 1 1 := ⟨by decide +kernel, rfl⟩
set_option maxRecDepth 100000 in
theorem d_M_knownSet_1 : Dc m_M_knownSet 1 (.lstore_n 3) 1 2 := ⟨by decide +kernel, rfl⟩
set_option maxRecDepth 100000 in
theorem d_M_knownSet_2 : Dc m_M_knownSet 2 (.iconst 0) 1 3 := ⟨by decide +kernel, rfl⟩
set_option maxRecDepth 100000 in
theorem d_M_knownSet_3 : Dc m_M_knownSet 3 (.istore 5) 2 5 := ⟨by decide +kernel, rfl⟩
set_option maxRecDepth 100000 in
theorem d_M_knownSet_5 : Dc m_M_knownSet 5 (.iload 5) 2 7 := ⟨by decide +kernel, rfl⟩
set_option maxRecDepth 100000 in
theorem d_M_knownSet_7 : Dc m_M_knownSet 7 (.bipush (36)) 2 9 := ⟨by decide +kernel, rfl⟩
set_option maxRecDepth 100000 in
theorem d_M_knownSet_9 : Dj m_M_knownSet 9 (.if_icmp .ge) 12 40 := ⟨31, by decide +kernel, rfl, by decide⟩
set_option maxRecDepth 100000 in
theorem d_M_knownSet_12 : Dc m_M_knownSet 12 (.lload_n 3) 1 13 := ⟨by decide +kernel, rfl⟩
set_option maxRecDepth 100000 in
theorem d_M_knownSet_13 : Dc m_M_knownSet 13 (.aload_n 0) 1 14 := ⟨by decide +kernel, rfl⟩
set_option maxRecDepth 100000 in
theorem d_M_knownSet_14 : Dc m_M_knownSet 14 (.iload_n 1) 1 15 := ⟨by decide +kernel, rfl⟩
set_option maxRecDepth 100000 in
theorem d_M_knownSet_15 : Dc m_M_knownSet 15 (.iload 5) 2 17 := ⟨by decide +kernel, rfl⟩
set_option maxRecDepth 100000 in
theorem d_M_knownSet_17 : Dc m_M_knownSet 17 (.iload_n 2) 1 18 := ⟨by decide +kernel, rfl⟩
set_option maxRecDepth 100000 in
theorem d_M_knownSet_18 : Dc m_M_knownSet 18 (.invokevirtual 193) 3 21 := ⟨by decide +kernel, rfl⟩
set_option maxRecDepth 100000 in
theorem d_M_knownSet_21 : Dj m_M_knownSet 21 (.ifCond .eq) 24 31 := ⟨10, by decide +kernel, rfl, by decide⟩
set_option maxRecDepth 100000 in
theorem d_M_knownSet_24 : Dc m_M_knownSet 24 (.lconst 1) 1 25 := ⟨by decide +kernel, rfl⟩
set_option maxRecDepth 100000 in
theorem d_M_knownSet_25 : Dc m_M_knownSet 25 (.iload 5) 2 27 := ⟨by decide +kernel, rfl⟩
set_option maxRecDepth 100000 in
theorem d_M_knownSet_27 : Dc m_M_knownSet 27 .lshl 1 28 := ⟨by decide +kernel, rfl⟩
set_option maxRecDepth 100000 in
theorem d_M_knownSet_28 : Dj m_M_knownSet 28 .goto 31 32 := ⟨4, by decide +kernel, rfl, by decide⟩
set_option maxRecDepth 100000 in
theorem d_M_knownSet_31 : Dc m_M_knownSet 31 (.lconst 0) 1 32 := ⟨by decide +kernel, rfl⟩
set_option maxRecDepth 100000 in
theorem d_M_knownSet_32 : Dc m_M_knownSet 32 .lor 1 33 := ⟨by decide +kernel, rfl⟩
set_option maxRecDepth 100000 in
theorem d_M_knownSet_33 : Dc m_M_knownSet 33 (.lstore_n 3) 1 34 := ⟨by decide +kernel, rfl⟩
set_option maxRecDepth 100000 in
theorem d_M_knownSet_34 : Dc m_M_knownSet 34 (.iinc 5 (1)) 3 37 := ⟨by decide +kernel, rfl⟩
set_option maxRecDepth 100000 in
theorem d_M_knownSet_37 : Dj m_M_knownSet 37 .goto 40 5 := ⟨-32, by decide +kernel, rfl, by decide⟩
set_option maxRecDepth 100000 in
theorem d_M_knownSet_40 : Dc m_M_knownSet 40 (.lload_n 3) 1 41 := ⟨by decide +kernel, rfl⟩
set_option maxRecDepth 100000 in
theorem d_M_knownSet_41 : Dc m_M_knownSet 41 .lreturn 1 42 := ⟨by decide +kernel, rfl⟩
set_option maxRecDepth 100000 in
theorem d_M_known_0 : Dc m_M_known 0 (.aload_n 0) 1 1 := ⟨by decide +kernel, rfl⟩
set_option maxRecDepth 100000 in
theorem d_M_known_1 : Dc m_M_known 1 (.iload_n 1) 1 2 := ⟨by decide +kernel, rfl⟩
set_option maxRecDepth 100000 in
theorem d_M_known_2 : Dc m_M_known 2 (.invokevirtual 115) 3 5 := ⟨by decide +kernel, rfl⟩
set_option maxRecDepth 100000 in
theorem d_M_known_5 : Dj m_M_known 5 (.ifCond .eq) 8 24 := ⟨19, by decide +kernel, rfl, by decide⟩
set_option maxRecDepth 100000 in
theorem d_M_known_8 : Dc m_M_known 8 (.iload_n 2) 1 9 := ⟨by decide +kernel, rfl⟩
set_option maxRecDepth 100000 in
theorem d_M_known_9 : Dc m_M_known 9 (.invokestatic 142) 3 12 := ⟨by decide +kernel, rfl⟩
set_option maxRecDepth 100000 in
theorem d_M_known_12 : Dj m_M_known 12 (.ifCond .eq) 15 24 := ⟨12, by decide +kernel, rfl, by decide⟩
set_option maxRecDepth 100000 in
theorem d_M_known_15 : Dc m_M_known 15 (.aload_n 0) 1 16 := ⟨by decide +kernel, rfl⟩
set_option maxRecDepth 100000 in
theorem d_M_known_16 : Dc m_M_known 16 (.iload_n 1) 1 17 := ⟨by decide +kernel, rfl⟩
set_option maxRecDepth 100000 in
theorem d_M_known_17 : Dc m_M_known 17 (.iload_n 2) 1 18 := ⟨by decide +kernel, rfl⟩
set_option maxRecDepth 100000 in
theorem d_M_known_18 : Dc m_M_known 18 (.invokevirtual 196) 3 21 := ⟨by decide +kernel, rfl⟩
set_option maxRecDepth 100000 in
theorem d_M_known_21 : Dj m_M_known 21 .goto 24 27 := ⟨6, by decide +kernel, rfl, by decide⟩
set_option maxRecDepth 100000 in
theorem d_M_known_24 : Dc m_M_known 24 (.ldc2_w 104) 3 27 := ⟨by decide +kernel, rfl⟩
set_option maxRecDepth 100000 in
theorem d_M_known_27 : Dc m_M_known 27 .lreturn 1 28 := ⟨by decide +kernel, rfl⟩
set_option maxRecDepth 100000 in
theorem d_M_lends_0 : Dc m_M_lends 0 (.aload_n 0) 1 1 := ⟨by decide +kernel, rfl⟩
set_option maxRecDepth 100000 in
theorem d_M_lends_1 : Dc m_M_lends 1 (.iconst 0) 1 2 := ⟨by decide +kernel, rfl⟩
set_option maxRecDepth 100000 in
theorem d_M_lends_2 : Dc m_M_lends 2 (.putfield 106) 3 5 := ⟨by decide +kernel, rfl⟩
set_option maxRecDepth 100000 in
theorem d_M_lends_5 : Dc m_M_lends 5 (.iconst 0) 1 6 := ⟨by decide +kernel, rfl⟩
set_option maxRecDepth 100000 in
theorem d_M_lends_6 : Dc m_M_lends 6 (.istore_n 1) 1 7 := ⟨by decide +kernel, rfl⟩
set_option maxRecDepth 100000 in
theorem d_M_lends_7 : Dc m_M_lends 7 (.iload_n 1) 1 8 := ⟨by decide +kernel, rfl⟩
set_option maxRecDepth 100000 in
theorem d_M_lends_8 : Dc m_M_lends 8 (.sipush (442)) 3 11 := ⟨by decide +kernel, rfl⟩
set_option maxRecDepth 100000 in
theorem d_M_lends_11 : Dj m_M_lends 11 (.if_icmp .ge) 14 36 := ⟨25, by decide +kernel, rfl, by decide⟩
set_option maxRecDepth 100000 in
theorem d_M_lends_14 : Dc m_M_lends 14 (.aload_n 0) 1 15 := ⟨by decide +kernel, rfl⟩
set_option maxRecDepth 100000 in
theorem d_M_lends_15 : Dc m_M_lends 15 (.getfield 7) 3 18 := ⟨by decide +kernel, rfl⟩
set_option maxRecDepth 100000 in
theorem d_M_lends_18 : Dc m_M_lends 18 (.sipush (442)) 3 21 := ⟨by decide +kernel, rfl⟩
set_option maxRecDepth 100000 in
theorem d_M_lends_21 : Dc m_M_lends 21 (.iload_n 1) 1 22 := ⟨by decide +kernel, rfl⟩
set_option maxRecDepth 100000 in
theorem d_M_lends_22 : Dc m_M_lends 22 .iadd 1 23 := ⟨by decide +kernel, rfl⟩
set_option maxRecDepth 100000 in
theorem d_M_lends_23 : Dc m_M_lends 23 (.aload_n 0) 1 24 := ⟨by decide +kernel, rfl⟩
set_option maxRecDepth 100000 in
theorem d_M_lends_24 : Dc m_M_lends 24 (.getfield 7) 3 27 := ⟨by decide +kernel, rfl⟩
set_option maxRecDepth 100000 in
theorem d_M_lends_27 : Dc m_M_lends 27 (.iload_n 1) 1 28 := ⟨by decide +kernel, rfl⟩
set_option maxRecDepth 100000 in
theorem d_M_lends_28 : Dc m_M_lends 28 .iaload 1 29 := ⟨by decide +kernel, rfl⟩
set_option maxRecDepth 100000 in
theorem d_M_lends_29 : Dc m_M_lends 29 .iastore 1 30 := ⟨by decide +kernel, rfl⟩
set_option maxRecDepth 100000 in
theorem d_M_lends_30 : Dc m_M_lends 30 (.iinc 1 (1)) 3 33 := ⟨by decide +kernel, rfl⟩
set_option maxRecDepth 100000 in
theorem d_M_lends_33 : Dj m_M_lends 33 .goto 36 7 := ⟨-26, by decide +kernel, rfl, by decide⟩
set_option maxRecDepth 100000 in
theorem d_M_lends_36 : Dc m_M_lends 36 (.aload_n 0) 1 37 := ⟨by decide +kernel, rfl⟩
set_option maxRecDepth 100000 in
theorem d_M_lends_37 : Dc m_M_lends 37 (.sipush (442)) 3 40 := ⟨by decide +kernel, rfl⟩
set_option maxRecDepth 100000 in
theorem d_M_lends_40 : Dc m_M_lends 40 (.putfield 106) 3 43 := ⟨by decide +kernel, rfl⟩
set_option maxRecDepth 100000 in
theorem d_M_lends_43 : Dc m_M_lends 43 .return_ 1 44 := ⟨by decide +kernel, rfl⟩
set_option maxRecDepth 100000 in
theorem d_M_all_0 : Dc m_M_all 0 (.ldc2_w 200) 3 3 := ⟨by decide +kernel, rfl⟩
set_option maxRecDepth 100000 in
theorem d_M_all_3 : Dc m_M_all 3 .lreturn 1 4 := ⟨by decide +kernel, rfl⟩
set_option maxRecDepth 100000 in
theorem d_M_friday_0 : Dc m_M_friday 0 (.aload_n 0) 1 1 := ⟨by decide +kernel, rfl⟩
set_option maxRecDepth 100000 in
theorem d_M_friday_1 : Dc m_M_friday 1 (.iload_n 1) 1 2 := ⟨by decide +kernel, rfl⟩
set_option maxRecDepth 100000 in
theorem d_M_friday_2 : Dc m_M_friday 2 (.invokevirtual 115) 3 5 := ⟨by decide +kernel, rfl⟩
set_option maxRecDepth 100000 in
theorem d_M_friday_5 : Dj m_M_friday 5 (.ifCond .eq) 8 25 := ⟨20, by decide +kernel, rfl, by decide⟩
set_option maxRecDepth 100000 in
theorem d_M_friday_8 : Dc m_M_friday 8 (.iload_n 2) 1 9 := ⟨by decide +kernel, rfl⟩
set_option maxRecDepth 100000 in
theorem d_M_friday_9 : Dc m_M_friday 9 (.iconst 0) 1 10 := ⟨by decide +kernel, rfl⟩
set_option maxRecDepth 100000 in
theorem d_M_friday_10 : Dc m_M_friday 10 (.bipush (30)) 2 12 := ⟨by decide +kernel, rfl⟩
set_option maxRecDepth 100000 in
theorem d_M_friday_12 : Dc m_M_friday 12 (.invokestatic 72) 3 15 := ⟨by decide +kernel, rfl⟩
set_option maxRecDepth 100000 in
theorem d_M_friday_15 : Dj m_M_friday 15 (.ifCond .eq) 18 25 := ⟨10, by decide +kernel, rfl, by decide⟩
set_option maxRecDepth 100000 in
theorem d_M_friday_18 : Dc m_M_friday 18 (.iload_n 3) 1 19 := ⟨by decide +kernel, rfl⟩
set_option maxRecDepth 100000 in
theorem d_M_friday_19 : Dc m_M_friday 19 (.invokestatic 142) 3 22 := ⟨by decide +kernel, rfl⟩
set_option maxRecDepth 100000 in
theorem d_M_friday_22 : Dj m_M_friday 22 (.ifCond .ne) 25 29 := ⟨7, by decide +kernel, rfl, by decide⟩
set_option maxRecDepth 100000 in
theorem d_M_friday_25 : Dc m_M_friday 25 (.ldc2_w 104) 3 28 := ⟨by decide +kernel, rfl⟩
set_option maxRecDepth 100000 in
theorem d_M_friday_28 : Dc m_M_friday 28 .lreturn 1 29 := ⟨by decide +kernel, rfl⟩
set_option maxRecDepth 100000 in
theorem d_M_friday_29 : Dc m_M_friday 29 (.aload_n 0) 1 30 := ⟨by decide +kernel, rfl⟩
set_option maxRecDepth 100000 in
theorem d_M_friday_30 : Dc m_M_friday 30 (.invokevirtual 202) 3 33 := ⟨by decide +kernel, rfl⟩
set_option maxRecDepth 100000 in
theorem d_M_friday_33 : Dc m_M_friday 33 (.iconst 0) 1 34 := ⟨by decide +kernel, rfl⟩
set_option maxRecDepth 100000 in
theorem d_M_friday_34 : Dc m_M_friday 34 (.istore 4) 2 36 := ⟨by decide +kernel, rfl⟩
set_option maxRecDepth 100000 in
theorem d_M_friday_36 : Dc m_M_friday 36 (.iload 4) 2 38 := ⟨by decide +kernel, rfl⟩
set_option maxRecDepth 100000 in
theorem d_M_friday_38 : Dc m_M_friday 38 (.iload_n 2) 1 39 := ⟨by decide +kernel, rfl⟩
set_option maxRecDepth 100000 in
theorem d_M_friday_39 : Dj m_M_friday 39 (.if_icmp .ge) 42 52 := ⟨13, by decide +kernel, rfl, by decide⟩
set_option maxRecDepth 100000 in
theorem d_M_friday_42 : Dc m_M_friday 42 (.aload_n 0) 1 43 := ⟨by decide +kernel, rfl⟩
set_option maxRecDepth 100000 in
theorem d_M_friday_43 : Dc m_M_friday 43 (.invokevirtual 190) 3 46 := ⟨by decide +kernel, rfl⟩
set_option maxRecDepth 100000 in
theorem d_M_friday_46 : Dc m_M_friday 46 (.iinc 4 (1)) 3 49 := ⟨by decide +kernel, rfl⟩
set_option maxRecDepth 100000 in
theorem d_M_friday_49 : Dj m_M_friday 49 .goto 52 36 := ⟨-13, by decide +kernel, rfl, by decide⟩
set_option maxRecDepth 100000 in
theorem d_M_friday_52 : Dc m_M_friday 52 (.invokestatic 205) 3 55 := ⟨by decide +kernel, rfl⟩
set_option maxRecDepth 100000 in
theorem d_M_friday_55 : Dc m_M_friday 55 (.aload_n 0) 1 56 := ⟨by decide +kernel, rfl⟩
set_option maxRecDepth 100000 in
theorem d_M_friday_56 : Dc m_M_friday 56 (.iload_n 1) 1 57 := ⟨by decide +kernel, rfl⟩
set_option maxRecDepth 100000 in
theorem d_M_friday_57 : Dc m_M_friday 57 (.iload_n 3) 1 58 := ⟨by decide +kernel, rfl⟩
set_option maxRecDepth 100000 in
theorem d_M_friday_58 : Dc m_M_friday 58 (.invokevirtual 196) 3 61 := ⟨by decide +kernel, rfl⟩
set_option maxRecDepth 100000 in
theorem d_M_friday_61 : Dc m_M_friday 61 (.ldc2_w 104) 3 64 := ⟨by decide +kernel, rfl⟩
set_option maxRecDepth 100000 in
theorem d_M_friday_64 : Dc m_M_friday 64 .lxor 1 65 := ⟨by decide +kernel, rfl⟩
set_option maxRecDepth 100000 in
theorem d_M_friday_65 : Dc m_M_friday 65 .land 1 66 := ⟨by decide +kernel, rfl⟩
set_option maxRecDepth 100000 in
theorem d_M_friday_66 : Dc m_M_friday 66 (.lstore 4) 2 68 := ⟨by decide +kernel, rfl⟩
set_option maxRecDepth 100000 in
theorem d_M_friday_68 : Dc m_M_friday 68 (.aload_n 0) 1 69 := ⟨by decide +kernel, rfl⟩
set_option maxRecDepth 100000 in
theorem d_M_friday_69 : Dc m_M_friday 69 (.iconst 0) 1 70 := ⟨by decide +kernel, rfl⟩
set_option maxRecDepth 100000 in
theorem d_M_friday_70 : Dc m_M_friday 70 (.putfield 106) 3 73 := ⟨by decide +kernel, rfl⟩
set_option maxRecDepth 100000 in
theorem d_M_friday_73 : Dc m_M_friday 73 (.lload 4) 2 75 := ⟨by decide +kernel, rfl⟩
set_option maxRecDepth 100000 in
theorem d_M_friday_75 : Dc m_M_friday 75 .lreturn 1 76 := ⟨by decide +kernel, rfl⟩
set_option maxRecDepth 100000 in
theorem d_M_ones_0 : Dc m_M_ones 0 (.iconst 0) 1 1 := ⟨by decide +kernel, rfl⟩
set_option maxRecDepth 100000 in
theorem d_M_ones_1 : Dc m_M_ones 1 (.istore_n 2) 1 2 := ⟨by decide +kernel, rfl⟩
set_option maxRecDepth 100000 in
theorem d_M_ones_2 : Dc m_M_ones 2 (.lload_n 0) 1 3 := ⟨by decide +kernel, rfl⟩
set_option maxRecDepth 100000 in
theorem d_M_ones_3 : Dc m_M_ones 3 (.lstore_n 3) 1 4 := ⟨by decide +kernel, rfl⟩
set_option maxRecDepth 100000 in
theorem d_M_ones_4 : Dc m_M_ones 4 (.lload_n 3) 1 5 := ⟨by decide +kernel, rfl⟩
set_option maxRecDepth 100000 in
theorem d_M_ones_5 : Dc m_M_ones 5 (.lconst 0) 1 6 := ⟨by decide +kernel, rfl⟩
set_option maxRecDepth 100000 in
theorem d_M_ones_6 : Dc m_M_ones 6 .lcmp 1 7 := ⟨by decide +kernel, rfl⟩
set_option maxRecDepth 100000 in
theorem d_M_ones_7 : Dj m_M_ones 7 (.ifCond .eq) 10 22 := ⟨15, by decide +kernel, rfl, by decide⟩
set_option maxRecDepth 100000 in
theorem d_M_ones_10 : Dc m_M_ones 10 (.iinc 2 (1)) 3 13 := ⟨by decide +kernel, rfl⟩
set_option maxRecDepth 100000 in
theorem d_M_ones_13 : Dc m_M_ones 13 (.lload_n 3) 1 14 := ⟨by decide +kernel, rfl⟩
set_option maxRecDepth 100000 in
theorem d_M_ones_14 : Dc m_M_ones 14 (.lload_n 3) 1 15 := ⟨by decide +kernel, rfl⟩
set_option maxRecDepth 100000 in
theorem d_M_ones_15 : Dc m_M_ones 15 (.lconst 1) 1 16 := ⟨by decide +kernel, rfl⟩
set_option maxRecDepth 100000 in
theorem d_M_ones_16 : Dc m_M_ones 16 .lsub 1 17 := ⟨by decide +kernel, rfl⟩
set_option maxRecDepth 100000 in
theorem d_M_ones_17 : Dc m_M_ones 17 .land 1 18 := ⟨by decide +kernel, rfl⟩
set_option maxRecDepth 100000 in
theorem d_M_ones_18 : Dc m_M_ones 18 (.lstore_n 3) 1 19 := ⟨by decide +kernel, rfl⟩
set_option maxRecDepth 100000 in
theorem d_M_ones_19 : Dj m_M_ones 19 .goto 22 4 := ⟨-15, by decide +kernel, rfl, by decide⟩
set_option maxRecDepth 100000 in
theorem d_M_ones_22 : Dc m_M_ones 22 (.iload_n 2) 1 23 := ⟨by decide +kernel, rfl⟩
set_option maxRecDepth 100000 in
theorem d_M_ones_23 : Dc m_M_ones 23 .ireturn 1 24 := ⟨by decide +kernel, rfl⟩
set_option maxRecDepth 100000 in
theorem d_M_partOf_0 : Dc m_M_partOf 0 (.iload_n 0) 1 1 := ⟨by decide +kernel, rfl⟩
set_option maxRecDepth 100000 in
theorem d_M_partOf_1 : Dc m_M_partOf 1 (.istore_n 3) 1 2 := ⟨by decide +kernel, rfl⟩
set_option maxRecDepth 100000 in
theorem d_M_partOf_2 : Dc m_M_partOf 2 (.iload_n 1) 1 3 := ⟨by decide +kernel, rfl⟩
set_option maxRecDepth 100000 in
theorem d_M_partOf_3 : Dc m_M_partOf 3 (.istore 4) 2 5 := ⟨by decide +kernel, rfl⟩
set_option maxRecDepth 100000 in
theorem d_M_partOf_5 : Dc m_M_partOf 5 (.iload 4) 2 7 := ⟨by decide +kernel, rfl⟩
set_option maxRecDepth 100000 in
theorem d_M_partOf_7 : Dj m_M_partOf 7 (.ifCond .eq) 10 26 := ⟨19, by decide +kernel, rfl, by decide⟩
set_option maxRecDepth 100000 in
theorem d_M_partOf_10 : Dc m_M_partOf 10 (.iload_n 3) 1 11 := ⟨by decide +kernel, rfl⟩
set_option maxRecDepth 100000 in
theorem d_M_partOf_11 : Dc m_M_partOf 11 (.iload 4) 2 13 := ⟨by decide +kernel, rfl⟩
set_option maxRecDepth 100000 in
theorem d_M_partOf_13 : Dc m_M_partOf 13 .irem 1 14 := ⟨by decide +kernel, rfl⟩
set_option maxRecDepth 100000 in
theorem d_M_partOf_14 : Dc m_M_partOf 14 (.istore 5) 2 16 := ⟨by decide +kernel, rfl⟩
set_option maxRecDepth 100000 in
theorem d_M_partOf_16 : Dc m_M_partOf 16 (.iload 4) 2 18 := ⟨by decide +kernel, rfl⟩
set_option maxRecDepth 100000 in
theorem d_M_partOf_18 : Dc m_M_partOf 18 (.istore_n 3) 1 19 := ⟨by decide +kernel, rfl⟩
set_option maxRecDepth 100000 in
theorem d_M_partOf_19 : Dc m_M_partOf 19 (.iload 5) 2 21 := ⟨by decide +kernel, rfl⟩
set_option maxRecDepth 100000 in
theorem d_M_partOf_21 : Dc m_M_partOf 21 (.istore 4) 2 23 := ⟨by decide +kernel, rfl⟩
set_option maxRecDepth 100000 in
theorem d_M_partOf_23 : Dj m_M_partOf 23 .goto 26 5 := ⟨-18, by decide +kernel, rfl, by decide⟩
set_option maxRecDepth 100000 in
theorem d_M_partOf_26 : Dc m_M_partOf 26 (.iload_n 2) 1 27 := ⟨by decide +kernel, rfl⟩
set_option maxRecDepth 100000 in
theorem d_M_partOf_27 : Dj m_M_partOf 27 (.ifCond .ne) 30 34 := ⟨7, by decide +kernel, rfl, by decide⟩
set_option maxRecDepth 100000 in
theorem d_M_partOf_30 : Dc m_M_partOf 30 (.iload_n 0) 1 31 := ⟨by decide +kernel, rfl⟩
set_option maxRecDepth 100000 in
theorem d_M_partOf_31 : Dj m_M_partOf 31 .goto 34 35 := ⟨4, by decide +kernel, rfl, by decide⟩
set_option maxRecDepth 100000 in
theorem d_M_partOf_34 : Dc m_M_partOf 34 (.iload_n 1) 1 35 := ⟨by decide +kernel, rfl⟩
set_option maxRecDepth 100000 in
theorem d_M_partOf_35 : Dc m_M_partOf 35 (.iload_n 3) 1 36 := ⟨by decide +kernel, rfl⟩
set_option maxRecDepth 100000 in
theorem d_M_partOf_36 : Dc m_M_partOf 36 .idiv 1 37 := ⟨by decide +kernel, rfl⟩
set_option maxRecDepth 100000 in
theorem d_M_partOf_37 : Dc m_M_partOf 37 .ireturn 1 38 := ⟨by decide +kernel, rfl⟩
set_option maxRecDepth 100000 in
theorem d_M_odds_0 : Dc m_M_odds 0 (.iload_n 1) 1 1 := ⟨by decide +kernel, rfl⟩
set_option maxRecDepth 100000 in
theorem d_M_odds_1 : Dc m_M_odds 1 (.invokestatic 142) 3 4 := ⟨by decide +kernel, rfl⟩
set_option maxRecDepth 100000 in
theorem d_M_odds_4 : Dj m_M_odds 4 (.ifCond .eq) 7 14 := ⟨10, by decide +kernel, rfl, by decide⟩
set_option maxRecDepth 100000 in
theorem d_M_odds_7 : Dc m_M_odds 7 (.iload_n 2) 1 8 := ⟨by decide +kernel, rfl⟩
set_option maxRecDepth 100000 in
theorem d_M_odds_8 : Dc m_M_odds 8 (.invokestatic 209) 3 11 := ⟨by decide +kernel, rfl⟩
set_option maxRecDepth 100000 in
theorem d_M_odds_11 : Dj m_M_odds 11 (.ifCond .ne) 14 16 := ⟨5, by decide +kernel, rfl, by decide⟩
set_option maxRecDepth 100000 in
theorem d_M_odds_14 : Dc m_M_odds 14 (.iconst (-1)) 1 15 := ⟨by decide +kernel, rfl⟩
set_option maxRecDepth 100000 in
theorem d_M_odds_15 : Dc m_M_odds 15 .ireturn 1 16 := ⟨by decide +kernel, rfl⟩
set_option maxRecDepth 100000 in
theorem d_M_odds_16 : Dc m_M_odds 16 (.aload_n 0) 1 17 := ⟨by decide +kernel, rfl⟩
set_option maxRecDepth 100000 in
theorem d_M_odds_17 : Dc m_M_odds 17 (.getfield 7) 3 20 := ⟨by decide +kernel, rfl⟩
set_option maxRecDepth 100000 in
theorem d_M_odds_20 : Dc m_M_odds 20 (.iconst 0) 1 21 := ⟨by decide +kernel, rfl⟩
set_option maxRecDepth 100000 in
theorem d_M_odds_21 : Dc m_M_odds 21 .iaload 1 22 := ⟨by decide +kernel, rfl⟩
set_option maxRecDepth 100000 in
theorem d_M_odds_22 : Dj m_M_odds 22 (.ifCond .ne) 25 28 := ⟨6, by decide +kernel, rfl, by decide⟩
set_option maxRecDepth 100000 in
theorem d_M_odds_25 : Dc m_M_odds 25 (.bipush (-3)) 2 27 := ⟨by decide +kernel, rfl⟩
set_option maxRecDepth 100000 in
theorem d_M_odds_27 : Dc m_M_odds 27 .ireturn 1 28 := ⟨by decide +kernel, rfl⟩
set_option maxRecDepth 100000 in
theorem d_M_odds_28 : Dc m_M_odds 28 (.iconst 0) 1 29 := ⟨by decide +kernel, rfl⟩
set_option maxRecDepth 100000 in
theorem d_M_odds_29 : Dc m_M_odds 29 (.istore_n 3) 1 30 := ⟨by decide +kernel, rfl⟩
set_option maxRecDepth 100000 in
theorem d_M_odds_30 : Dc m_M_odds 30 (.iconst 0) 1 31 := ⟨by decide +kernel, rfl⟩
set_option maxRecDepth 100000 in
theorem d_M_odds_31 : Dc m_M_odds 31 (.istore 4) 2 33 := ⟨by decide +kernel, rfl⟩
set_option maxRecDepth 100000 in
theorem d_M_odds_33 : Dc m_M_odds 33 (.iload 4) 2 35 := ⟨by decide +kernel, rfl⟩
set_option maxRecDepth 100000 in
theorem d_M_odds_35 : Dc m_M_odds 35 (.aload_n 0) 1 36 := ⟨by decide +kernel, rfl⟩
set_option maxRecDepth 100000 in
theorem d_M_odds_36 : Dc m_M_odds 36 (.getfield 7) 3 39 := ⟨by decide +kernel, rfl⟩
set_option maxRecDepth 100000 in
theorem d_M_odds_39 : Dc m_M_odds 39 (.iconst 0) 1 40 := ⟨by decide +kernel, rfl⟩
set_option maxRecDepth 100000 in
theorem d_M_odds_40 : Dc m_M_odds 40 .iaload 1 41 := ⟨by decide +kernel, rfl⟩
set_option maxRecDepth 100000 in
theorem d_M_odds_41 : Dj m_M_odds 41 (.if_icmp .ge) 44 63 := ⟨22, by decide +kernel, rfl, by decide⟩
set_option maxRecDepth 100000 in
theorem d_M_odds_44 : Dc m_M_odds 44 (.iload_n 3) 1 45 := ⟨by decide +kernel, rfl⟩
set_option maxRecDepth 100000 in
theorem d_M_odds_45 : Dc m_M_odds 45 (.aload_n 0) 1 46 := ⟨by decide +kernel, rfl⟩
set_option maxRecDepth 100000 in
theorem d_M_odds_46 : Dc m_M_odds 46 (.iload 4) 2 48 := ⟨by decide +kernel, rfl⟩
set_option maxRecDepth 100000 in
theorem d_M_odds_48 : Dc m_M_odds 48 (.iload_n 1) 1 49 := ⟨by decide +kernel, rfl⟩
set_option maxRecDepth 100000 in
theorem d_M_odds_49 : Dc m_M_odds 49 (.invokevirtual 196) 3 52 := ⟨by decide +kernel, rfl⟩
set_option maxRecDepth 100000 in
theorem d_M_odds_52 : Dc m_M_odds 52 (.invokestatic 212) 3 55 := ⟨by decide +kernel, rfl⟩
set_option maxRecDepth 100000 in
theorem d_M_odds_55 : Dc m_M_odds 55 .iadd 1 56 := ⟨by decide +kernel, rfl⟩
set_option maxRecDepth 100000 in
theorem d_M_odds_56 : Dc m_M_odds 56 (.istore_n 3) 1 57 := ⟨by decide +kernel, rfl⟩
set_option maxRecDepth 100000 in
theorem d_M_odds_57 : Dc m_M_odds 57 (.iinc 4 (1)) 3 60 := ⟨by decide +kernel, rfl⟩
set_option maxRecDepth 100000 in
theorem d_M_odds_60 : Dj m_M_odds 60 .goto 63 33 := ⟨-27, by decide +kernel, rfl, by decide⟩
set_option maxRecDepth 100000 in
theorem d_M_odds_63 : Dc m_M_odds 63 (.iload_n 3) 1 64 := ⟨by decide +kernel, rfl⟩
set_option maxRecDepth 100000 in
theorem d_M_odds_64 : Dc m_M_odds 64 (.bipush (36)) 2 66 := ⟨by decide +kernel, rfl⟩
set_option maxRecDepth 100000 in
theorem d_M_odds_66 : Dc m_M_odds 66 (.aload_n 0) 1 67 := ⟨by decide +kernel, rfl⟩
set_option maxRecDepth 100000 in
theorem d_M_odds_67 : Dc m_M_odds 67 (.getfield 7) 3 70 := ⟨by decide +kernel, rfl⟩
set_option maxRecDepth 100000 in
theorem d_M_odds_70 : Dc m_M_odds 70 (.iconst 0) 1 71 := ⟨by decide +kernel, rfl⟩
set_option maxRecDepth 100000 in
theorem d_M_odds_71 : Dc m_M_odds 71 .iaload 1 72 := ⟨by decide +kernel, rfl⟩
set_option maxRecDepth 100000 in
theorem d_M_odds_72 : Dc m_M_odds 72 .imul 1 73 := ⟨by decide +kernel, rfl⟩
set_option maxRecDepth 100000 in
theorem d_M_odds_73 : Dc m_M_odds 73 (.iload_n 2) 1 74 := ⟨by decide +kernel, rfl⟩
set_option maxRecDepth 100000 in
theorem d_M_odds_74 : Dc m_M_odds 74 (.invokestatic 216) 3 77 := ⟨by decide +kernel, rfl⟩
set_option maxRecDepth 100000 in
theorem d_M_odds_77 : Dc m_M_odds 77 .ireturn 1 78 := ⟨by decide +kernel, rfl⟩
set_option maxRecDepth 100000 in
theorem d_M_firmBehind_0 : Dc m_M_firmBehind 0 (.iload_n 1) 1 1 := ⟨by decide +kernel, rfl⟩
set_option maxRecDepth 100000 in
theorem d_M_firmBehind_1 : Dc m_M_firmBehind 1 (.istore 4) 2 3 := ⟨by decide +kernel, rfl⟩
set_option maxRecDepth 100000 in
theorem d_M_firmBehind_3 : Dc m_M_firmBehind 3 (.iconst 0) 1 4 := ⟨by decide +kernel, rfl⟩
set_option maxRecDepth 100000 in
theorem d_M_firmBehind_4 : Dc m_M_firmBehind 4 (.istore 5) 2 6 := ⟨by decide +kernel, rfl⟩
set_option maxRecDepth 100000 in
theorem d_M_firmBehind_6 : Dc m_M_firmBehind 6 (.iload 5) 2 8 := ⟨by decide +kernel, rfl⟩
set_option maxRecDepth 100000 in
theorem d_M_firmBehind_8 : Dc m_M_firmBehind 8 (.iload_n 3) 1 9 := ⟨by decide +kernel, rfl⟩
set_option maxRecDepth 100000 in
theorem d_M_firmBehind_9 : Dj m_M_firmBehind 9 (.if_icmp .ge) 12 39 := ⟨30, by decide +kernel, rfl, by decide⟩
set_option maxRecDepth 100000 in
theorem d_M_firmBehind_12 : Dc m_M_firmBehind 12 (.iload 4) 2 14 := ⟨by decide +kernel, rfl⟩
set_option maxRecDepth 100000 in
theorem d_M_firmBehind_14 : Dc m_M_firmBehind 14 (.iload 4) 2 16 := ⟨by decide +kernel, rfl⟩
set_option maxRecDepth 100000 in
theorem d_M_firmBehind_16 : Dc m_M_firmBehind 16 (.aload_n 0) 1 17 := ⟨by decide +kernel, rfl⟩
set_option maxRecDepth 100000 in
theorem d_M_firmBehind_17 : Dc m_M_firmBehind 17 (.getfield 13) 3 20 := ⟨by decide +kernel, rfl⟩
set_option maxRecDepth 100000 in
theorem d_M_firmBehind_20 : Dc m_M_firmBehind 20 (.iconst 0) 1 21 := ⟨by decide +kernel, rfl⟩
set_option maxRecDepth 100000 in
theorem d_M_firmBehind_21 : Dc m_M_firmBehind 21 .iaload 1 22 := ⟨by decide +kernel, rfl⟩
set_option maxRecDepth 100000 in
theorem d_M_firmBehind_22 : Dc m_M_firmBehind 22 .imul 1 23 := ⟨by decide +kernel, rfl⟩
set_option maxRecDepth 100000 in
theorem d_M_firmBehind_23 : Dc m_M_firmBehind 23 (.bipush (100)) 2 25 := ⟨by decide +kernel, rfl⟩
set_option maxRecDepth 100000 in
theorem d_M_firmBehind_25 : Dc m_M_firmBehind 25 (.iload_n 2) 1 26 := ⟨by decide +kernel, rfl⟩
set_option maxRecDepth 100000 in
theorem d_M_firmBehind_26 : Dc m_M_firmBehind 26 (.iconst 1) 1 27 := ⟨by decide +kernel, rfl⟩
set_option maxRecDepth 100000 in
theorem d_M_firmBehind_27 : Dc m_M_firmBehind 27 .iadd 1 28 := ⟨by decide +kernel, rfl⟩
set_option maxRecDepth 100000 in
theorem d_M_firmBehind_28 : Dc m_M_firmBehind 28 .imul 1 29 := ⟨by decide +kernel, rfl⟩
set_option maxRecDepth 100000 in
theorem d_M_firmBehind_29 : Dc m_M_firmBehind 29 .idiv 1 30 := ⟨by decide +kernel, rfl⟩
set_option maxRecDepth 100000 in
theorem d_M_firmBehind_30 : Dc m_M_firmBehind 30 .isub 1 31 := ⟨by decide +kernel, rfl⟩
set_option maxRecDepth 100000 in
theorem d_M_firmBehind_31 : Dc m_M_firmBehind 31 (.istore 4) 2 33 := ⟨by decide +kernel, rfl⟩
set_option maxRecDepth 100000 in
theorem d_M_firmBehind_33 : Dc m_M_firmBehind 33 (.iinc 5 (1)) 3 36 := ⟨by decide +kernel, rfl⟩
set_option maxRecDepth 100000 in
theorem d_M_firmBehind_36 : Dj m_M_firmBehind 36 .goto 39 6 := ⟨-30, by decide +kernel, rfl, by decide⟩
set_option maxRecDepth 100000 in
theorem d_M_firmBehind_39 : Dc m_M_firmBehind 39 (.iload 4) 2 41 := ⟨by decide +kernel, rfl⟩
set_option maxRecDepth 100000 in
theorem d_M_firmBehind_41 : Dc m_M_firmBehind 41 .ireturn 1 42 := ⟨by decide +kernel, rfl⟩
set_option maxRecDepth 100000 in
theorem d_M_findBehind_0 : Dc m_M_findBehind 0 (.iconst 0) 1 1 := ⟨by decide +kernel, rfl⟩
set_option maxRecDepth 100000 in
theorem d_M_findBehind_1 : Dc m_M_findBehind 1 (.istore_n 3) 1 2 := ⟨by decide +kernel, rfl⟩
set_option maxRecDepth 100000 in
theorem d_M_findBehind_2 : Dc m_M_findBehind 2 (.iload_n 3) 1 3 := ⟨by decide +kernel, rfl⟩
set_option maxRecDepth 100000 in
theorem d_M_findBehind_3 : Dc m_M_findBehind 3 (.bipush (36)) 2 5 := ⟨by decide +kernel, rfl⟩
set_option maxRecDepth 100000 in
theorem d_M_findBehind_5 : Dj m_M_findBehind 5 (.if_icmp .ge) 8 79 := ⟨74, by decide +kernel, rfl, by decide⟩
set_option maxRecDepth 100000 in
theorem d_M_findBehind_8 : Dc m_M_findBehind 8 (.aload_n 0) 1 9 := ⟨by decide +kernel, rfl⟩
set_option maxRecDepth 100000 in
theorem d_M_findBehind_9 : Dc m_M_findBehind 9 (.iload_n 1) 1 10 := ⟨by decide +kernel, rfl⟩
set_option maxRecDepth 100000 in
theorem d_M_findBehind_10 : Dc m_M_findBehind 10 (.iload_n 3) 1 11 := ⟨by decide +kernel, rfl⟩
set_option maxRecDepth 100000 in
theorem d_M_findBehind_11 : Dc m_M_findBehind 11 (.invokevirtual 112) 3 14 := ⟨by decide +kernel, rfl⟩
set_option maxRecDepth 100000 in
theorem d_M_findBehind_14 : Dc m_M_findBehind 14 (.istore 4) 2 16 := ⟨by decide +kernel, rfl⟩
set_option maxRecDepth 100000 in
theorem d_M_findBehind_16 : Dc m_M_findBehind 16 (.iconst 0) 1 17 := ⟨by decide +kernel, rfl⟩
set_option maxRecDepth 100000 in
theorem d_M_findBehind_17 : Dc m_M_findBehind 17 (.istore 5) 2 19 := ⟨by decide +kernel, rfl⟩
set_option maxRecDepth 100000 in
theorem d_M_findBehind_19 : Dc m_M_findBehind 19 (.iload 5) 2 21 := ⟨by decide +kernel, rfl⟩
set_option maxRecDepth 100000 in
theorem d_M_findBehind_21 : Dc m_M_findBehind 21 (.iconst 3) 1 22 := ⟨by decide +kernel, rfl⟩
set_option maxRecDepth 100000 in
theorem d_M_findBehind_22 : Dj m_M_findBehind 22 (.if_icmp .ge) 25 73 := ⟨51, by decide +kernel, rfl, by decide⟩
set_option maxRecDepth 100000 in
theorem d_M_findBehind_25 : Dc m_M_findBehind 25 (.aload_n 0) 1 26 := ⟨by decide +kernel, rfl⟩
set_option maxRecDepth 100000 in
theorem d_M_findBehind_26 : Dc m_M_findBehind 26 (.getfield 23) 3 29 := ⟨by decide +kernel, rfl⟩
set_option maxRecDepth 100000 in
theorem d_M_findBehind_29 : Dc m_M_findBehind 29 (.iconst 3) 1 30 := ⟨by decide +kernel, rfl⟩
set_option maxRecDepth 100000 in
theorem d_M_findBehind_30 : Dc m_M_findBehind 30 (.iload_n 3) 1 31 := ⟨by decide +kernel, rfl⟩
set_option maxRecDepth 100000 in
theorem d_M_findBehind_31 : Dc m_M_findBehind 31 .imul 1 32 := ⟨by decide +kernel, rfl⟩
set_option maxRecDepth 100000 in
theorem d_M_findBehind_32 : Dc m_M_findBehind 32 (.iload 5) 2 34 := ⟨by decide +kernel, rfl⟩
set_option maxRecDepth 100000 in
theorem d_M_findBehind_34 : Dc m_M_findBehind 34 .iadd 1 35 := ⟨by decide +kernel, rfl⟩
set_option maxRecDepth 100000 in
theorem d_M_findBehind_35 : Dc m_M_findBehind 35 (.aload_n 0) 1 36 := ⟨by decide +kernel, rfl⟩
set_option maxRecDepth 100000 in
theorem d_M_findBehind_36 : Dc m_M_findBehind 36 (.iload 4) 2 38 := ⟨by decide +kernel, rfl⟩
set_option maxRecDepth 100000 in
theorem d_M_findBehind_38 : Dc m_M_findBehind 38 (.aload_n 0) 1 39 := ⟨by decide +kernel, rfl⟩
set_option maxRecDepth 100000 in
theorem d_M_findBehind_39 : Dc m_M_findBehind 39 (.iload_n 1) 1 40 := ⟨by decide +kernel, rfl⟩
set_option maxRecDepth 100000 in
theorem d_M_findBehind_40 : Dc m_M_findBehind 40 (.iload_n 3) 1 41 := ⟨by decide +kernel, rfl⟩
set_option maxRecDepth 100000 in
theorem d_M_findBehind_41 : Dc m_M_findBehind 41 (.invokevirtual 127) 3 44 := ⟨by decide +kernel, rfl⟩
set_option maxRecDepth 100000 in
theorem d_M_findBehind_44 : Dc m_M_findBehind 44 (.iload_n 2) 1 45 := ⟨by decide +kernel, rfl⟩
set_option maxRecDepth 100000 in
theorem d_M_findBehind_45 : Dc m_M_findBehind 45 (.invokevirtual 219) 3 48 := ⟨by decide +kernel, rfl⟩
set_option maxRecDepth 100000 in
theorem d_M_findBehind_48 : Dc m_M_findBehind 48 .iastore 1 49 := ⟨by decide +kernel, rfl⟩
set_option maxRecDepth 100000 in
theorem d_M_findBehind_49 : Dc m_M_findBehind 49 (.iload 4) 2 51 := ⟨by decide +kernel, rfl⟩
set_option maxRecDepth 100000 in
theorem d_M_findBehind_51 : Dc m_M_findBehind 51 (.bipush (100)) 2 53 := ⟨by decide +kernel, rfl⟩
set_option maxRecDepth 100000 in
theorem d_M_findBehind_53 : Dc m_M_findBehind 53 (.iload 4) 2 55 := ⟨by decide +kernel, rfl⟩
set_option maxRecDepth 100000 in
theorem d_M_findBehind_55 : Dc m_M_findBehind 55 .isub 1 56 := ⟨by decide +kernel, rfl⟩
set_option maxRecDepth 100000 in
theorem d_M_findBehind_56 : Dc m_M_findBehind 56 (.bipush (6)) 2 58 := ⟨by decide +kernel, rfl⟩
set_option maxRecDepth 100000 in
theorem d_M_findBehind_58 : Dc m_M_findBehind 58 .idiv 1 59 := ⟨by decide +kernel, rfl⟩
set_option maxRecDepth 100000 in
theorem d_M_findBehind_59 : Dc m_M_findBehind 59 .iadd 1 60 := ⟨by decide +kernel, rfl⟩
set_option maxRecDepth 100000 in
theorem d_M_findBehind_60 : Dc m_M_findBehind 60 (.iconst 1) 1 61 := ⟨by decide +kernel, rfl⟩
set_option maxRecDepth 100000 in
theorem d_M_findBehind_61 : Dc m_M_findBehind 61 .iadd 1 62 := ⟨by decide +kernel, rfl⟩
set_option maxRecDepth 100000 in
theorem d_M_findBehind_62 : Dc m_M_findBehind 62 (.invokestatic 139) 3 65 := ⟨by decide +kernel, rfl⟩
set_option maxRecDepth 100000 in
theorem d_M_findBehind_65 : Dc m_M_findBehind 65 (.istore 4) 2 67 := ⟨by decide +kernel, rfl⟩
set_option maxRecDepth 100000 in
theorem d_M_findBehind_67 : Dc m_M_findBehind 67 (.iinc 5 (1)) 3 70 := ⟨by decide +kernel, rfl⟩
set_option maxRecDepth 100000 in
theorem d_M_findBehind_70 : Dj m_M_findBehind 70 .goto 73 19 := ⟨-51, by decide +kernel, rfl, by decide⟩
set_option maxRecDepth 100000 in
theorem d_M_findBehind_73 : Dc m_M_findBehind 73 (.iinc 3 (1)) 3 76 := ⟨by decide +kernel, rfl⟩
set_option maxRecDepth 100000 in
theorem d_M_findBehind_76 : Dj m_M_findBehind 76 .goto 79 2 := ⟨-74, by decide +kernel, rfl, by decide⟩
set_option maxRecDepth 100000 in
theorem d_M_findBehind_79 : Dc m_M_findBehind 79 .return_ 1 80 := ⟨by decide +kernel, rfl⟩
set_option maxRecDepth 100000 in
theorem d_M_best_0 : Dc m_M_best 0 (.aload_n 0) 1 1 := ⟨by decide +kernel, rfl⟩
set_option maxRecDepth 100000 in
theorem d_M_best_1 : Dc m_M_best 1 (.iload_n 1) 1 2 := ⟨by decide +kernel, rfl⟩
set_option maxRecDepth 100000 in
theorem d_M_best_2 : Dc m_M_best 2 (.invokevirtual 115) 3 5 := ⟨by decide +kernel, rfl⟩
set_option maxRecDepth 100000 in
theorem d_M_best_5 : Dj m_M_best 5 (.ifCond .eq) 8 35 := ⟨30, by decide +kernel, rfl, by decide⟩
set_option maxRecDepth 100000 in
theorem d_M_best_8 : Dc m_M_best 8 (.iload_n 2) 1 9 := ⟨by decide +kernel, rfl⟩
set_option maxRecDepth 100000 in
theorem d_M_best_9 : Dc m_M_best 9 (.iconst 1) 1 10 := ⟨by decide +kernel, rfl⟩
set_option maxRecDepth 100000 in
theorem d_M_best_10 : Dc m_M_best 10 (.iconst 2) 1 11 := ⟨by decide +kernel, rfl⟩
set_option maxRecDepth 100000 in
theorem d_M_best_11 : Dc m_M_best 11 (.invokestatic 72) 3 14 := ⟨by decide +kernel, rfl⟩
set_option maxRecDepth 100000 in
theorem d_M_best_14 : Dj m_M_best 14 (.ifCond .eq) 17 35 := ⟨21, by decide +kernel, rfl, by decide⟩
set_option maxRecDepth 100000 in
theorem d_M_best_17 : Dc m_M_best 17 (.iload_n 3) 1 18 := ⟨by decide +kernel, rfl⟩
set_option maxRecDepth 100000 in
theorem d_M_best_18 : Dc m_M_best 18 (.iconst 0) 1 19 := ⟨by decide +kernel, rfl⟩
set_option maxRecDepth 100000 in
theorem d_M_best_19 : Dc m_M_best 19 (.bipush (9)) 2 21 := ⟨by decide +kernel, rfl⟩
set_option maxRecDepth 100000 in
theorem d_M_best_21 : Dc m_M_best 21 (.invokestatic 72) 3 24 := ⟨by decide +kernel, rfl⟩
set_option maxRecDepth 100000 in
theorem d_M_best_24 : Dj m_M_best 24 (.ifCond .eq) 27 35 := ⟨11, by decide +kernel, rfl, by decide⟩
set_option maxRecDepth 100000 in
theorem d_M_best_27 : Dc m_M_best 27 (.iload 4) 2 29 := ⟨by decide +kernel, rfl⟩
set_option maxRecDepth 100000 in
theorem d_M_best_29 : Dc m_M_best 29 (.invokestatic 209) 3 32 := ⟨by decide +kernel, rfl⟩
set_option maxRecDepth 100000 in
theorem d_M_best_32 : Dj m_M_best 32 (.ifCond .ne) 35 37 := ⟨5, by decide +kernel, rfl, by decide⟩
set_option maxRecDepth 100000 in
theorem d_M_best_35 : Dc m_M_best 35 (.iconst (-1)) 1 36 := ⟨by decide +kernel, rfl⟩
set_option maxRecDepth 100000 in
theorem d_M_best_36 : Dc m_M_best 36 .ireturn 1 37 := ⟨by decide +kernel, rfl⟩
set_option maxRecDepth 100000 in
theorem d_M_best_37 : Dc m_M_best 37 (.aload_n 0) 1 38 := ⟨by decide +kernel, rfl⟩
set_option maxRecDepth 100000 in
theorem d_M_best_38 : Dc m_M_best 38 (.iload_n 1) 1 39 := ⟨by decide +kernel, rfl⟩
set_option maxRecDepth 100000 in
theorem d_M_best_39 : Dc m_M_best 39 (.iload_n 3) 1 40 := ⟨by decide +kernel, rfl⟩
set_option maxRecDepth 100000 in
theorem d_M_best_40 : Dc m_M_best 40 (.invokevirtual 222) 3 43 := ⟨by decide +kernel, rfl⟩
set_option maxRecDepth 100000 in
theorem d_M_best_43 : Dc m_M_best 43 (.iconst 0) 1 44 := ⟨by decide +kernel, rfl⟩
set_option maxRecDepth 100000 in
theorem d_M_best_44 : Dc m_M_best 44 (.istore 5) 2 46 := ⟨by decide +kernel, rfl⟩
set_option maxRecDepth 100000 in
theorem d_M_best_46 : Dc m_M_best 46 (.iconst 0) 1 47 := ⟨by decide +kernel, rfl⟩
set_option maxRecDepth 100000 in
theorem d_M_best_47 : Dc m_M_best 47 (.istore 6) 2 49 := ⟨by decide +kernel, rfl⟩
set_option maxRecDepth 100000 in
theorem d_M_best_49 : Dc m_M_best 49 (.iload 6) 2 51 := ⟨by decide +kernel, rfl⟩
set_option maxRecDepth 100000 in
theorem d_M_best_51 : Dc m_M_best 51 (.bipush (36)) 2 53 := ⟨by decide +kernel, rfl⟩
set_option maxRecDepth 100000 in
theorem d_M_best_53 : Dj m_M_best 53 (.if_icmp .ge) 56 76 := ⟨23, by decide +kernel, rfl, by decide⟩
set_option maxRecDepth 100000 in
theorem d_M_best_56 : Dc m_M_best 56 (.iload 5) 2 58 := ⟨by decide +kernel, rfl⟩
set_option maxRecDepth 100000 in
theorem d_M_best_58 : Dc m_M_best 58 (.aload_n 0) 1 59 := ⟨by decide +kernel, rfl⟩
set_option maxRecDepth 100000 in
theorem d_M_best_59 : Dc m_M_best 59 (.getfield 23) 3 62 := ⟨by decide +kernel, rfl⟩
set_option maxRecDepth 100000 in
theorem d_M_best_62 : Dc m_M_best 62 (.iconst 3) 1 63 := ⟨by decide +kernel, rfl⟩
set_option maxRecDepth 100000 in
theorem d_M_best_63 : Dc m_M_best 63 (.iload 6) 2 65 := ⟨by decide +kernel, rfl⟩
set_option maxRecDepth 100000 in
theorem d_M_best_65 : Dc m_M_best 65 .imul 1 66 := ⟨by decide +kernel, rfl⟩
set_option maxRecDepth 100000 in
theorem d_M_best_66 : Dc m_M_best 66 .iaload 1 67 := ⟨by decide +kernel, rfl⟩
set_option maxRecDepth 100000 in
theorem d_M_best_67 : Dc m_M_best 67 .iadd 1 68 := ⟨by decide +kernel, rfl⟩
set_option maxRecDepth 100000 in
theorem d_M_best_68 : Dc m_M_best 68 (.istore 5) 2 70 := ⟨by decide +kernel, rfl⟩
set_option maxRecDepth 100000 in
theorem d_M_best_70 : Dc m_M_best 70 (.iinc 6 (1)) 3 73 := ⟨by decide +kernel, rfl⟩
set_option maxRecDepth 100000 in
theorem d_M_best_73 : Dj m_M_best 73 .goto 76 49 := ⟨-24, by decide +kernel, rfl, by decide⟩
set_option maxRecDepth 100000 in
theorem d_M_best_76 : Dc m_M_best 76 (.iconst (-1)) 1 77 := ⟨by decide +kernel, rfl⟩
set_option maxRecDepth 100000 in
theorem d_M_best_77 : Dc m_M_best 77 (.istore 6) 2 79 := ⟨by decide +kernel, rfl⟩
set_option maxRecDepth 100000 in
theorem d_M_best_79 : Dc m_M_best 79 (.iconst 0) 1 80 := ⟨by decide +kernel, rfl⟩
set_option maxRecDepth 100000 in
theorem d_M_best_80 : Dc m_M_best 80 (.istore 7) 2 82 := ⟨by decide +kernel, rfl⟩
set_option maxRecDepth 100000 in
theorem d_M_best_82 : Dc m_M_best 82 (.iconst 0) 1 83 := ⟨by decide +kernel, rfl⟩
set_option maxRecDepth 100000 in
theorem d_M_best_83 : Dc m_M_best 83 (.istore 8) 2 85 := ⟨by decide +kernel, rfl⟩
set_option maxRecDepth 100000 in
theorem d_M_best_85 : Dc m_M_best 85 (.iload 8) 2 87 := ⟨by decide +kernel, rfl⟩
set_option maxRecDepth 100000 in
theorem d_M_best_87 : Dc m_M_best 87 (.bipush (36)) 2 89 := ⟨by decide +kernel, rfl⟩
set_option maxRecDepth 100000 in
theorem d_M_best_89 : Dj m_M_best 89 (.if_icmp .ge) 92 239 := ⟨150, by decide +kernel, rfl, by decide⟩
set_option maxRecDepth 100000 in
theorem d_M_best_92 : Dc m_M_best 92 (.iload 5) 2 94 := ⟨by decide +kernel, rfl⟩
set_option maxRecDepth 100000 in
theorem d_M_best_94 : Dc m_M_best 94 (.aload_n 0) 1 95 := ⟨by decide +kernel, rfl⟩
set_option maxRecDepth 100000 in
theorem d_M_best_95 : Dc m_M_best 95 (.getfield 23) 3 98 := ⟨by decide +kernel, rfl⟩
set_option maxRecDepth 100000 in
theorem d_M_best_98 : Dc m_M_best 98 (.iconst 3) 1 99 := ⟨by decide +kernel, rfl⟩
set_option maxRecDepth 100000 in
theorem d_M_best_99 : Dc m_M_best 99 (.iload 8) 2 101 := ⟨by decide +kernel, rfl⟩
set_option maxRecDepth 100000 in
theorem d_M_best_101 : Dc m_M_best 101 .imul 1 102 := ⟨by decide +kernel, rfl⟩
set_option maxRecDepth 100000 in
theorem d_M_best_102 : Dc m_M_best 102 .iaload 1 103 := ⟨by decide +kernel, rfl⟩
set_option maxRecDepth 100000 in
theorem d_M_best_103 : Dc m_M_best 103 .isub 1 104 := ⟨by decide +kernel, rfl⟩
set_option maxRecDepth 100000 in
theorem d_M_best_104 : Dc m_M_best 104 (.aload_n 0) 1 105 := ⟨by decide +kernel, rfl⟩
set_option maxRecDepth 100000 in
theorem d_M_best_105 : Dc m_M_best 105 (.getfield 23) 3 108 := ⟨by decide +kernel, rfl⟩
set_option maxRecDepth 100000 in
theorem d_M_best_108 : Dc m_M_best 108 (.iconst 3) 1 109 := ⟨by decide +kernel, rfl⟩
set_option maxRecDepth 100000 in
theorem d_M_best_109 : Dc m_M_best 109 (.iload 8) 2 111 := ⟨by decide +kernel, rfl⟩
set_option maxRecDepth 100000 in
theorem d_M_best_111 : Dc m_M_best 111 .imul 1 112 := ⟨by decide +kernel, rfl⟩
set_option maxRecDepth 100000 in
theorem d_M_best_112 : Dc m_M_best 112 (.iconst 1) 1 113 := ⟨by decide +kernel, rfl⟩
set_option maxRecDepth 100000 in
theorem d_M_best_113 : Dc m_M_best 113 .iadd 1 114 := ⟨by decide +kernel, rfl⟩
set_option maxRecDepth 100000 in
theorem d_M_best_114 : Dc m_M_best 114 .iaload 1 115 := ⟨by decide +kernel, rfl⟩
set_option maxRecDepth 100000 in
theorem d_M_best_115 : Dc m_M_best 115 .iadd 1 116 := ⟨by decide +kernel, rfl⟩
set_option maxRecDepth 100000 in
theorem d_M_best_116 : Dc m_M_best 116 (.istore 9) 2 118 := ⟨by decide +kernel, rfl⟩
set_option maxRecDepth 100000 in
theorem d_M_best_118 : Dc m_M_best 118 (.iconst 0) 1 119 := ⟨by decide +kernel, rfl⟩
set_option maxRecDepth 100000 in
theorem d_M_best_119 : Dc m_M_best 119 (.istore 10) 2 121 := ⟨by decide +kernel, rfl⟩
set_option maxRecDepth 100000 in
theorem d_M_best_121 : Dc m_M_best 121 (.iload 10) 2 123 := ⟨by decide +kernel, rfl⟩
set_option maxRecDepth 100000 in
theorem d_M_best_123 : Dc m_M_best 123 (.iload_n 2) 1 124 := ⟨by decide +kernel, rfl⟩
set_option maxRecDepth 100000 in
theorem d_M_best_124 : Dc m_M_best 124 (.iconst 1) 1 125 := ⟨by decide +kernel, rfl⟩
set_option maxRecDepth 100000 in
theorem d_M_best_125 : Dj m_M_best 125 (.if_icmp .ne) 128 132 := ⟨7, by decide +kernel, rfl, by decide⟩
set_option maxRecDepth 100000 in
theorem d_M_best_128 : Dc m_M_best 128 (.iconst 1) 1 129 := ⟨by decide +kernel, rfl⟩
set_option maxRecDepth 100000 in
theorem d_M_best_129 : Dj m_M_best 129 .goto 132 134 := ⟨5, by decide +kernel, rfl, by decide⟩
set_option maxRecDepth 100000 in
theorem d_M_best_132 : Dc m_M_best 132 (.bipush (36)) 2 134 := ⟨by decide +kernel, rfl⟩
set_option maxRecDepth 100000 in
theorem d_M_best_134 : Dj m_M_best 134 (.if_icmp .ge) 137 233 := ⟨99, by decide +kernel, rfl, by decide⟩
set_option maxRecDepth 100000 in
theorem d_M_best_137 : Dc m_M_best 137 (.iload_n 2) 1 138 := ⟨by decide +kernel, rfl⟩
set_option maxRecDepth 100000 in
theorem d_M_best_138 : Dc m_M_best 138 (.iconst 1) 1 139 := ⟨by decide +kernel, rfl⟩
set_option maxRecDepth 100000 in
theorem d_M_best_139 : Dj m_M_best 139 (.if_icmp .ne) 142 147 := ⟨8, by decide +kernel, rfl, by decide⟩
set_option maxRecDepth 100000 in
theorem d_M_best_142 : Dc m_M_best 142 (.iload 9) 2 144 := ⟨by decide +kernel, rfl⟩
set_option maxRecDepth 100000 in
theorem d_M_best_144 : Dj m_M_best 144 .goto 147 205 := ⟨61, by decide +kernel, rfl, by decide⟩
set_option maxRecDepth 100000 in
theorem d_M_best_147 : Dc m_M_best 147 (.iload 8) 2 149 := ⟨by decide +kernel, rfl⟩
set_option maxRecDepth 100000 in
theorem d_M_best_149 : Dc m_M_best 149 (.iload 10) 2 151 := ⟨by decide +kernel, rfl⟩
set_option maxRecDepth 100000 in
theorem d_M_best_151 : Dj m_M_best 151 (.if_icmp .ne) 154 181 := ⟨30, by decide +kernel, rfl, by decide⟩
set_option maxRecDepth 100000 in
theorem d_M_best_154 : Dc m_M_best 154 (.iload 5) 2 156 := ⟨by decide +kernel, rfl⟩
set_option maxRecDepth 100000 in
theorem d_M_best_156 : Dc m_M_best 156 (.aload_n 0) 1 157 := ⟨by decide +kernel, rfl⟩
set_option maxRecDepth 100000 in
theorem d_M_best_157 : Dc m_M_best 157 (.getfield 23) 3 160 := ⟨by decide +kernel, rfl⟩
set_option maxRecDepth 100000 in
theorem d_M_best_160 : Dc m_M_best 160 (.iconst 3) 1 161 := ⟨by decide +kernel, rfl⟩
set_option maxRecDepth 100000 in
theorem d_M_best_161 : Dc m_M_best 161 (.iload 8) 2 163 := ⟨by decide +kernel, rfl⟩
set_option maxRecDepth 100000 in
theorem d_M_best_163 : Dc m_M_best 163 .imul 1 164 := ⟨by decide +kernel, rfl⟩
set_option maxRecDepth 100000 in
theorem d_M_best_164 : Dc m_M_best 164 .iaload 1 165 := ⟨by decide +kernel, rfl⟩
set_option maxRecDepth 100000 in
theorem d_M_best_165 : Dc m_M_best 165 .isub 1 166 := ⟨by decide +kernel, rfl⟩
set_option maxRecDepth 100000 in
theorem d_M_best_166 : Dc m_M_best 166 (.aload_n 0) 1 167 := ⟨by decide +kernel, rfl⟩
set_option maxRecDepth 100000 in
theorem d_M_best_167 : Dc m_M_best 167 (.getfield 23) 3 170 := ⟨by decide +kernel, rfl⟩
set_option maxRecDepth 100000 in
theorem d_M_best_170 : Dc m_M_best 170 (.iconst 3) 1 171 := ⟨by decide +kernel, rfl⟩
set_option maxRecDepth 100000 in
theorem d_M_best_171 : Dc m_M_best 171 (.iload 8) 2 173 := ⟨by decide +kernel, rfl⟩
set_option maxRecDepth 100000 in
theorem d_M_best_173 : Dc m_M_best 173 .imul 1 174 := ⟨by decide +kernel, rfl⟩
set_option maxRecDepth 100000 in
theorem d_M_best_174 : Dc m_M_best 174 (.iconst 2) 1 175 := ⟨by decide +kernel, rfl⟩
set_option maxRecDepth 100000 in
theorem d_M_best_175 : Dc m_M_best 175 .iadd 1 176 := ⟨by decide +kernel, rfl⟩
set_option maxRecDepth 100000 in
theorem d_M_best_176 : Dc m_M_best 176 .iaload 1 177 := ⟨by decide +kernel, rfl⟩
set_option maxRecDepth 100000 in
theorem d_M_best_177 : Dc m_M_best 177 .iadd 1 178 := ⟨by decide +kernel, rfl⟩
set_option maxRecDepth 100000 in
theorem d_M_best_178 : Dj m_M_best 178 .goto 181 205 := ⟨27, by decide +kernel, rfl, by decide⟩
set_option maxRecDepth 100000 in
theorem d_M_best_181 : Dc m_M_best 181 (.iload 9) 2 183 := ⟨by decide +kernel, rfl⟩
set_option maxRecDepth 100000 in
theorem d_M_best_183 : Dc m_M_best 183 (.aload_n 0) 1 184 := ⟨by decide +kernel, rfl⟩
set_option maxRecDepth 100000 in
theorem d_M_best_184 : Dc m_M_best 184 (.getfield 23) 3 187 := ⟨by decide +kernel, rfl⟩
set_option maxRecDepth 100000 in
theorem d_M_best_187 : Dc m_M_best 187 (.iconst 3) 1 188 := ⟨by decide +kernel, rfl⟩
set_option maxRecDepth 100000 in
theorem d_M_best_188 : Dc m_M_best 188 (.iload 10) 2 190 := ⟨by decide +kernel, rfl⟩
set_option maxRecDepth 100000 in
theorem d_M_best_190 : Dc m_M_best 190 .imul 1 191 := ⟨by decide +kernel, rfl⟩
set_option maxRecDepth 100000 in
theorem d_M_best_191 : Dc m_M_best 191 .iaload 1 192 := ⟨by decide +kernel, rfl⟩
set_option maxRecDepth 100000 in
theorem d_M_best_192 : Dc m_M_best 192 .isub 1 193 := ⟨by decide +kernel, rfl⟩
set_option maxRecDepth 100000 in
theorem d_M_best_193 : Dc m_M_best 193 (.aload_n 0) 1 194 := ⟨by decide +kernel, rfl⟩
set_option maxRecDepth 100000 in
theorem d_M_best_194 : Dc m_M_best 194 (.getfield 23) 3 197 := ⟨by decide +kernel, rfl⟩
set_option maxRecDepth 100000 in
theorem d_M_best_197 : Dc m_M_best 197 (.iconst 3) 1 198 := ⟨by decide +kernel, rfl⟩
set_option maxRecDepth 100000 in
theorem d_M_best_198 : Dc m_M_best 198 (.iload 10) 2 200 := ⟨by decide +kernel, rfl⟩
set_option maxRecDepth 100000 in
theorem d_M_best_200 : Dc m_M_best 200 .imul 1 201 := ⟨by decide +kernel, rfl⟩
set_option maxRecDepth 100000 in
theorem d_M_best_201 : Dc m_M_best 201 (.iconst 1) 1 202 := ⟨by decide +kernel, rfl⟩
set_option maxRecDepth 100000 in
theorem d_M_best_202 : Dc m_M_best 202 .iadd 1 203 := ⟨by decide +kernel, rfl⟩
set_option maxRecDepth 100000 in
theorem d_M_best_203 : Dc m_M_best 203 .iaload 1 204 := ⟨by decide +kernel, rfl⟩
set_option maxRecDepth 100000 in
theorem d_M_best_204 : Dc m_M_best 204 .iadd 1 205 := ⟨by decide +kernel, rfl⟩
set_option maxRecDepth 100000 in
theorem d_M_best_205 : Dc m_M_best 205 (.istore 11) 2 207 := ⟨by decide +kernel, rfl⟩
set_option maxRecDepth 100000 in
theorem d_M_best_207 : Dc m_M_best 207 (.iload 6) 2 209 := ⟨by decide +kernel, rfl⟩
set_option maxRecDepth 100000 in
theorem d_M_best_209 : Dj m_M_best 209 (.ifCond .lt) 212 219 := ⟨10, by decide +kernel, rfl, by decide⟩
set_option maxRecDepth 100000 in
theorem d_M_best_212 : Dc m_M_best 212 (.iload 11) 2 214 := ⟨by decide +kernel, rfl⟩
set_option maxRecDepth 100000 in
theorem d_M_best_214 : Dc m_M_best 214 (.iload 7) 2 216 := ⟨by decide +kernel, rfl⟩
set_option maxRecDepth 100000 in
theorem d_M_best_216 : Dj m_M_best 216 (.if_icmp .le) 219 227 := ⟨11, by decide +kernel, rfl, by decide⟩
set_option maxRecDepth 100000 in
theorem d_M_best_219 : Dc m_M_best 219 (.iload 8) 2 221 := ⟨by decide +kernel, rfl⟩
set_option maxRecDepth 100000 in
theorem d_M_best_221 : Dc m_M_best 221 (.istore 6) 2 223 := ⟨by decide +kernel, rfl⟩
set_option maxRecDepth 100000 in
theorem d_M_best_223 : Dc m_M_best 223 (.iload 11) 2 225 := ⟨by decide +kernel, rfl⟩
set_option maxRecDepth 100000 in
theorem d_M_best_225 : Dc m_M_best 225 (.istore 7) 2 227 := ⟨by decide +kernel, rfl⟩
set_option maxRecDepth 100000 in
theorem d_M_best_227 : Dc m_M_best 227 (.iinc 10 (1)) 3 230 := ⟨by decide +kernel, rfl⟩
set_option maxRecDepth 100000 in
theorem d_M_best_230 : Dj m_M_best 230 .goto 233 121 := ⟨-109, by decide +kernel, rfl, by decide⟩
set_option maxRecDepth 100000 in
theorem d_M_best_233 : Dc m_M_best 233 (.iinc 8 (1)) 3 236 := ⟨by decide +kernel, rfl⟩
set_option maxRecDepth 100000 in
theorem d_M_best_236 : Dj m_M_best 236 .goto 239 85 := ⟨-151, by decide +kernel, rfl, by decide⟩
set_option maxRecDepth 100000 in
theorem d_M_best_239 : Dc m_M_best 239 (.iload 4) 2 241 := ⟨by decide +kernel, rfl⟩
set_option maxRecDepth 100000 in
theorem d_M_best_241 : Dj m_M_best 241 (.ifCond .ne) 244 249 := ⟨8, by decide +kernel, rfl, by decide⟩
set_option maxRecDepth 100000 in
theorem d_M_best_244 : Dc m_M_best 244 (.iload 7) 2 246 := ⟨by decide +kernel, rfl⟩
set_option maxRecDepth 100000 in
theorem d_M_best_246 : Dj m_M_best 246 .goto 249 251 := ⟨5, by decide +kernel, rfl, by decide⟩
set_option maxRecDepth 100000 in
theorem d_M_best_249 : Dc m_M_best 249 (.iload 6) 2 251 := ⟨by decide +kernel, rfl⟩
set_option maxRecDepth 100000 in
theorem d_M_best_251 : Dc m_M_best 251 .ireturn 1 252 := ⟨by decide +kernel, rfl⟩
set_option maxRecDepth 100000 in
theorem d_M_till_0 : Dc m_M_till 0 (.aload_n 0) 1 1 := ⟨by decide +kernel, rfl⟩
set_option maxRecDepth 100000 in
theorem d_M_till_1 : Dc m_M_till 1 (.iload_n 1) 1 2 := ⟨by decide +kernel, rfl⟩
set_option maxRecDepth 100000 in
theorem d_M_till_2 : Dc m_M_till 2 (.invokevirtual 115) 3 5 := ⟨by decide +kernel, rfl⟩
set_option maxRecDepth 100000 in
theorem d_M_till_5 : Dj m_M_till 5 (.ifCond .eq) 8 25 := ⟨20, by decide +kernel, rfl, by decide⟩
set_option maxRecDepth 100000 in
theorem d_M_till_8 : Dc m_M_till 8 (.iload_n 2) 1 9 := ⟨by decide +kernel, rfl⟩
set_option maxRecDepth 100000 in
theorem d_M_till_9 : Dc m_M_till 9 (.invokestatic 91) 3 12 := ⟨by decide +kernel, rfl⟩
set_option maxRecDepth 100000 in
theorem d_M_till_12 : Dj m_M_till 12 (.ifCond .eq) 15 25 := ⟨13, by decide +kernel, rfl, by decide⟩
set_option maxRecDepth 100000 in
theorem d_M_till_15 : Dc m_M_till 15 (.iload_n 3) 1 16 := ⟨by decide +kernel, rfl⟩
set_option maxRecDepth 100000 in
theorem d_M_till_16 : Dc m_M_till 16 (.iconst 0) 1 17 := ⟨by decide +kernel, rfl⟩
set_option maxRecDepth 100000 in
theorem d_M_till_17 : Dc m_M_till 17 (.bipush (100)) 2 19 := ⟨by decide +kernel, rfl⟩
set_option maxRecDepth 100000 in
theorem d_M_till_19 : Dc m_M_till 19 (.invokestatic 72) 3 22 := ⟨by decide +kernel, rfl⟩
set_option maxRecDepth 100000 in
theorem d_M_till_22 : Dj m_M_till 22 (.ifCond .ne) 25 27 := ⟨5, by decide +kernel, rfl, by decide⟩
set_option maxRecDepth 100000 in
theorem d_M_till_25 : Dc m_M_till 25 (.iconst (-1)) 1 26 := ⟨by decide +kernel, rfl⟩
set_option maxRecDepth 100000 in
theorem d_M_till_26 : Dc m_M_till 26 .ireturn 1 27 := ⟨by decide +kernel, rfl⟩
set_option maxRecDepth 100000 in
theorem d_M_till_27 : Dc m_M_till 27 (.aload_n 0) 1 28 := ⟨by decide +kernel, rfl⟩
set_option maxRecDepth 100000 in
theorem d_M_till_28 : Dc m_M_till 28 (.iload_n 1) 1 29 := ⟨by decide +kernel, rfl⟩
set_option maxRecDepth 100000 in
theorem d_M_till_29 : Dc m_M_till 29 (.iload_n 2) 1 30 := ⟨by decide +kernel, rfl⟩
set_option maxRecDepth 100000 in
theorem d_M_till_30 : Dc m_M_till 30 (.invokevirtual 112) 3 33 := ⟨by decide +kernel, rfl⟩
set_option maxRecDepth 100000 in
theorem d_M_till_33 : Dc m_M_till 33 (.istore 4) 2 35 := ⟨by decide +kernel, rfl⟩
set_option maxRecDepth 100000 in
theorem d_M_till_35 : Dc m_M_till 35 (.iconst 0) 1 36 := ⟨by decide +kernel, rfl⟩
set_option maxRecDepth 100000 in
theorem d_M_till_36 : Dc m_M_till 36 (.istore 5) 2 38 := ⟨by decide +kernel, rfl⟩
set_option maxRecDepth 100000 in
theorem d_M_till_38 : Dc m_M_till 38 (.iload 4) 2 40 := ⟨by decide +kernel, rfl⟩
set_option maxRecDepth 100000 in
theorem d_M_till_40 : Dc m_M_till 40 (.iload_n 3) 1 41 := ⟨by decide +kernel, rfl⟩
set_option maxRecDepth 100000 in
theorem d_M_till_41 : Dj m_M_till 41 (.if_icmp .ge) 44 68 := ⟨27, by decide +kernel, rfl, by decide⟩
set_option maxRecDepth 100000 in
theorem d_M_till_44 : Dc m_M_till 44 (.iload 4) 2 46 := ⟨by decide +kernel, rfl⟩
set_option maxRecDepth 100000 in
theorem d_M_till_46 : Dc m_M_till 46 (.bipush (100)) 2 48 := ⟨by decide +kernel, rfl⟩
set_option maxRecDepth 100000 in
theorem d_M_till_48 : Dc m_M_till 48 (.iload 4) 2 50 := ⟨by decide +kernel, rfl⟩
set_option maxRecDepth 100000 in
theorem d_M_till_50 : Dc m_M_till 50 .isub 1 51 := ⟨by decide +kernel, rfl⟩
set_option maxRecDepth 100000 in
theorem d_M_till_51 : Dc m_M_till 51 (.bipush (6)) 2 53 := ⟨by decide +kernel, rfl⟩
set_option maxRecDepth 100000 in
theorem d_M_till_53 : Dc m_M_till 53 .idiv 1 54 := ⟨by decide +kernel, rfl⟩
set_option maxRecDepth 100000 in
theorem d_M_till_54 : Dc m_M_till 54 .iadd 1 55 := ⟨by decide +kernel, rfl⟩
set_option maxRecDepth 100000 in
theorem d_M_till_55 : Dc m_M_till 55 (.iconst 1) 1 56 := ⟨by decide +kernel, rfl⟩
set_option maxRecDepth 100000 in
theorem d_M_till_56 : Dc m_M_till 56 .iadd 1 57 := ⟨by decide +kernel, rfl⟩
set_option maxRecDepth 100000 in
theorem d_M_till_57 : Dc m_M_till 57 (.invokestatic 139) 3 60 := ⟨by decide +kernel, rfl⟩
set_option maxRecDepth 100000 in
theorem d_M_till_60 : Dc m_M_till 60 (.istore 4) 2 62 := ⟨by decide +kernel, rfl⟩
set_option maxRecDepth 100000 in
theorem d_M_till_62 : Dc m_M_till 62 (.iinc 5 (1)) 3 65 := ⟨by decide +kernel, rfl⟩
set_option maxRecDepth 100000 in
theorem d_M_till_65 : Dj m_M_till 65 .goto 68 38 := ⟨-27, by decide +kernel, rfl, by decide⟩
set_option maxRecDepth 100000 in
theorem d_M_till_68 : Dc m_M_till 68 (.iload 5) 2 70 := ⟨by decide +kernel, rfl⟩
set_option maxRecDepth 100000 in
theorem d_M_till_70 : Dc m_M_till 70 .ireturn 1 71 := ⟨by decide +kernel, rfl⟩
set_option maxRecDepth 100000 in
theorem d_M_hardest_0 : Dc m_M_hardest 0 (.iload_n 1) 1 1 := ⟨by decide +kernel, rfl⟩
set_option maxRecDepth 100000 in
theorem d_M_hardest_1 : Dc m_M_hardest 1 (.invokestatic 142) 3 4 := ⟨by decide +kernel, rfl⟩
set_option maxRecDepth 100000 in
theorem d_M_hardest_4 : Dj m_M_hardest 4 (.ifCond .ne) 7 9 := ⟨5, by decide +kernel, rfl, by decide⟩
set_option maxRecDepth 100000 in
theorem d_M_hardest_7 : Dc m_M_hardest 7 (.iconst (-1)) 1 8 := ⟨by decide +kernel, rfl⟩
set_option maxRecDepth 100000 in
theorem d_M_hardest_8 : Dc m_M_hardest 8 .ireturn 1 9 := ⟨by decide +kernel, rfl⟩
set_option maxRecDepth 100000 in
theorem d_M_hardest_9 : Dc m_M_hardest 9 (.aload_n 0) 1 10 := ⟨by decide +kernel, rfl⟩
