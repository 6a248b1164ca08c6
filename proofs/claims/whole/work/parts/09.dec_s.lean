set_option maxRecDepth 100000 in
theorem d_S_init_0 : Dc m_S_init 0 (.aload_n 0) 1 1 := ⟨by decide +kernel, rfl⟩
set_option maxRecDepth 100000 in
theorem d_S_init_1 : Dc m_S_init 1 (.invokespecial 3) 3 4 := ⟨by decide +kernel, rfl⟩
set_option maxRecDepth 100000 in
theorem d_S_init_4 : Dc m_S_init 4 (.aload_n 0) 1 5 := ⟨by decide +kernel, rfl⟩
set_option maxRecDepth 100000 in
theorem d_S_init_5 : Dc m_S_init 5 (.new 9) 3 8 := ⟨by decide +kernel, rfl⟩
set_option maxRecDepth 100000 in
theorem d_S_init_8 : Dc m_S_init 8 .dup 1 9 := ⟨by decide +kernel, rfl⟩
set_option maxRecDepth 100000 in
theorem d_S_init_9 : Dc m_S_init 9 (.invokespecial 11) 3 12 := ⟨by decide +kernel, rfl⟩
set_option maxRecDepth 100000 in
theorem d_S_init_12 : Dc m_S_init 12 (.putfield 12) 3 15 := ⟨by decide +kernel, rfl⟩
set_option maxRecDepth 100000 in
theorem d_S_init_15 : Dc m_S_init 15 (.aload_n 0) 1 16 := ⟨by decide +kernel, rfl⟩
set_option maxRecDepth 100000 in
theorem d_S_init_16 : Dc m_S_init 16 (.new 9) 3 19 := ⟨by decide +kernel, rfl⟩
set_option maxRecDepth 100000 in
theorem d_S_init_19 : Dc m_S_init 19 .dup 1 20 := ⟨by decide +kernel, rfl⟩
set_option maxRecDepth 100000 in
theorem d_S_init_20 : Dc m_S_init 20 (.invokespecial 11) 3 23 := ⟨by decide +kernel, rfl⟩
set_option maxRecDepth 100000 in
theorem d_S_init_23 : Dc m_S_init 23 (.putfield 16) 3 26 := ⟨by decide +kernel, rfl⟩
set_option maxRecDepth 100000 in
theorem d_S_init_26 : Dc m_S_init 26 (.aload_n 0) 1 27 := ⟨by decide +kernel, rfl⟩
set_option maxRecDepth 100000 in
theorem d_S_init_27 : Dc m_S_init 27 (.iconst 0) 1 28 := ⟨by decide +kernel, rfl⟩
set_option maxRecDepth 100000 in
theorem d_S_init_28 : Dc m_S_init 28 (.putfield 19) 3 31 := ⟨by decide +kernel, rfl⟩
set_option maxRecDepth 100000 in
theorem d_S_init_31 : Dc m_S_init 31 (.aload_n 0) 1 32 := ⟨by decide +kernel, rfl⟩
set_option maxRecDepth 100000 in
theorem d_S_init_32 : Dc m_S_init 32 (.new 23) 3 35 := ⟨by decide +kernel, rfl⟩
set_option maxRecDepth 100000 in
theorem d_S_init_35 : Dc m_S_init 35 .dup 1 36 := ⟨by decide +kernel, rfl⟩
set_option maxRecDepth 100000 in
theorem d_S_init_36 : Dc m_S_init 36 (.invokespecial 25) 3 39 := ⟨by decide +kernel, rfl⟩
set_option maxRecDepth 100000 in
theorem d_S_init_39 : Dc m_S_init 39 (.putfield 26) 3 42 := ⟨by decide +kernel, rfl⟩
set_option maxRecDepth 100000 in
theorem d_S_init_42 : Dc m_S_init 42 (.aload_n 0) 1 43 := ⟨by decide +kernel, rfl⟩
set_option maxRecDepth 100000 in
theorem d_S_init_43 : Dc m_S_init 43 (.new 30) 3 46 := ⟨by decide +kernel, rfl⟩
set_option maxRecDepth 100000 in
theorem d_S_init_46 : Dc m_S_init 46 .dup 1 47 := ⟨by decide +kernel, rfl⟩
set_option maxRecDepth 100000 in
theorem d_S_init_47 : Dc m_S_init 47 (.invokespecial 32) 3 50 := ⟨by decide +kernel, rfl⟩
set_option maxRecDepth 100000 in
theorem d_S_init_50 : Dc m_S_init 50 (.putfield 33) 3 53 := ⟨by decide +kernel, rfl⟩
set_option maxRecDepth 100000 in
theorem d_S_init_53 : Dc m_S_init 53 (.aload_n 0) 1 54 := ⟨by decide +kernel, rfl⟩
set_option maxRecDepth 100000 in
theorem d_S_init_54 : Dc m_S_init 54 (.new 37) 3 57 := ⟨by decide +kernel, rfl⟩
set_option maxRecDepth 100000 in
theorem d_S_init_57 : Dc m_S_init 57 .dup 1 58 := ⟨by decide +kernel, rfl⟩
set_option maxRecDepth 100000 in
theorem d_S_init_58 : Dc m_S_init 58 (.invokespecial 39) 3 61 := ⟨by decide +kernel, rfl⟩
set_option maxRecDepth 100000 in
theorem d_S_init_61 : Dc m_S_init 61 (.putfield 40) 3 64 := ⟨by decide +kernel, rfl⟩
set_option maxRecDepth 100000 in
theorem d_S_init_64 : Dc m_S_init 64 (.aload_n 0) 1 65 := ⟨by decide +kernel, rfl⟩
set_option maxRecDepth 100000 in
theorem d_S_init_65 : Dc m_S_init 65 (.new 44) 3 68 := ⟨by decide +kernel, rfl⟩
set_option maxRecDepth 100000 in
theorem d_S_init_68 : Dc m_S_init 68 .dup 1 69 := ⟨by decide +kernel, rfl⟩
set_option maxRecDepth 100000 in
theorem d_S_init_69 : Dc m_S_init 69 (.invokespecial 46) 3 72 := ⟨by decide +kernel, rfl⟩
set_option maxRecDepth 100000 in
theorem d_S_init_72 : Dc m_S_init 72 (.putfield 47) 3 75 := ⟨by decide +kernel, rfl⟩
set_option maxRecDepth 100000 in
theorem d_S_init_75 : Dc m_S_init 75 (.aload_n 0) 1 76 := ⟨by decide +kernel, rfl⟩
set_option maxRecDepth 100000 in
theorem d_S_init_76 : Dc m_S_init 76 (.new 51) 3 79 := ⟨by decide +kernel, rfl⟩
set_option maxRecDepth 100000 in
theorem d_S_init_79 : Dc m_S_init 79 .dup 1 80 := ⟨by decide +kernel, rfl⟩
set_option maxRecDepth 100000 in
theorem d_S_init_80 : Dc m_S_init 80 (.invokespecial 53) 3 83 := ⟨by decide +kernel, rfl⟩
set_option maxRecDepth 100000 in
theorem d_S_init_83 : Dc m_S_init 83 (.putfield 54) 3 86 := ⟨by decide +kernel, rfl⟩
set_option maxRecDepth 100000 in
theorem d_S_init_86 : Dc m_S_init 86 (.aload_n 0) 1 87 := ⟨by decide +kernel, rfl⟩
set_option maxRecDepth 100000 in
theorem d_S_init_87 : Dc m_S_init 87 (.bipush (36)) 2 89 := ⟨by decide +kernel, rfl⟩
set_option maxRecDepth 100000 in
theorem d_S_init_89 : Dc m_S_init 89 (.newarray .int) 2 91 := ⟨by decide +kernel, rfl⟩
set_option maxRecDepth 100000 in
theorem d_S_init_91 : Dc m_S_init 91 (.putfield 58) 3 94 := ⟨by decide +kernel, rfl⟩
set_option maxRecDepth 100000 in
theorem d_S_init_94 : Dc m_S_init 94 (.aload_n 0) 1 95 := ⟨by decide +kernel, rfl⟩
set_option maxRecDepth 100000 in
theorem d_S_init_95 : Dc m_S_init 95 (.new 62) 3 98 := ⟨by decide +kernel, rfl⟩
set_option maxRecDepth 100000 in
theorem d_S_init_98 : Dc m_S_init 98 .dup 1 99 := ⟨by decide +kernel, rfl⟩
set_option maxRecDepth 100000 in
theorem d_S_init_99 : Dc m_S_init 99 (.invokespecial 64) 3 102 := ⟨by decide +kernel, rfl⟩
set_option maxRecDepth 100000 in
theorem d_S_init_102 : Dc m_S_init 102 (.putfield 65) 3 105 := ⟨by decide +kernel, rfl⟩
set_option maxRecDepth 100000 in
theorem d_S_init_105 : Dc m_S_init 105 (.aload_n 0) 1 106 := ⟨by decide +kernel, rfl⟩
set_option maxRecDepth 100000 in
theorem d_S_init_106 : Dc m_S_init 106 (.new 62) 3 109 := ⟨by decide +kernel, rfl⟩
set_option maxRecDepth 100000 in
theorem d_S_init_109 : Dc m_S_init 109 .dup 1 110 := ⟨by decide +kernel, rfl⟩
set_option maxRecDepth 100000 in
theorem d_S_init_110 : Dc m_S_init 110 (.invokespecial 64) 3 113 := ⟨by decide +kernel, rfl⟩
set_option maxRecDepth 100000 in
theorem d_S_init_113 : Dc m_S_init 113 (.putfield 69) 3 116 := ⟨by decide +kernel, rfl⟩
set_option maxRecDepth 100000 in
theorem d_S_init_116 : Dc m_S_init 116 (.aload_n 0) 1 117 := ⟨by decide +kernel, rfl⟩
set_option maxRecDepth 100000 in
theorem d_S_init_117 : Dc m_S_init 117 (.iconst 4) 1 118 := ⟨by decide +kernel, rfl⟩
set_option maxRecDepth 100000 in
theorem d_S_init_118 : Dc m_S_init 118 (.anewarray 72) 3 121 := ⟨by decide +kernel, rfl⟩
set_option maxRecDepth 100000 in
theorem d_S_init_121 : Dc m_S_init 121 (.putfield 74) 3 124 := ⟨by decide +kernel, rfl⟩
set_option maxRecDepth 100000 in
theorem d_S_init_124 : Dc m_S_init 124 (.aload_n 0) 1 125 := ⟨by decide +kernel, rfl⟩
set_option maxRecDepth 100000 in
theorem d_S_init_125 : Dc m_S_init 125 (.iconst 4) 1 126 := ⟨by decide +kernel, rfl⟩
set_option maxRecDepth 100000 in
theorem d_S_init_126 : Dc m_S_init 126 (.anewarray 78) 3 129 := ⟨by decide +kernel, rfl⟩
set_option maxRecDepth 100000 in
theorem d_S_init_129 : Dc m_S_init 129 (.putfield 80) 3 132 := ⟨by decide +kernel, rfl⟩
set_option maxRecDepth 100000 in
theorem d_S_init_132 : Dc m_S_init 132 (.aload_n 0) 1 133 := ⟨by decide +kernel, rfl⟩
set_option maxRecDepth 100000 in
theorem d_S_init_133 : Dc m_S_init 133 (.new 84) 3 136 := ⟨by decide +kernel, rfl⟩
set_option maxRecDepth 100000 in
theorem d_S_init_136 : Dc m_S_init 136 .dup 1 137 := ⟨by decide +kernel, rfl⟩
set_option maxRecDepth 100000 in
theorem d_S_init_137 : Dc m_S_init 137 (.invokespecial 86) 3 140 := ⟨by decide +kernel, rfl⟩
set_option maxRecDepth 100000 in
theorem d_S_init_140 : Dc m_S_init 140 (.putfield 87) 3 143 := ⟨by decide +kernel, rfl⟩
set_option maxRecDepth 100000 in
theorem d_S_init_143 : Dc m_S_init 143 (.iconst 0) 1 144 := ⟨by decide +kernel, rfl⟩
set_option maxRecDepth 100000 in
theorem d_S_init_144 : Dc m_S_init 144 (.istore_n 1) 1 145 := ⟨by decide +kernel, rfl⟩
set_option maxRecDepth 100000 in
theorem d_S_init_145 : Dc m_S_init 145 (.iload_n 1) 1 146 := ⟨by decide +kernel, rfl⟩
set_option maxRecDepth 100000 in
theorem d_S_init_146 : Dc m_S_init 146 (.iconst 4) 1 147 := ⟨by decide +kernel, rfl⟩
set_option maxRecDepth 100000 in
theorem d_S_init_147 : Dj m_S_init 147 (.if_icmp .ge) 150 169 := ⟨22, by decide +kernel, rfl, by decide⟩
set_option maxRecDepth 100000 in
theorem d_S_init_150 : Dc m_S_init 150 (.aload_n 0) 1 151 := ⟨by decide +kernel, rfl⟩
set_option maxRecDepth 100000 in
theorem d_S_init_151 : Dc m_S_init 151 (.getfield 74) 3 154 := ⟨by decide +kernel, rfl⟩
set_option maxRecDepth 100000 in
theorem d_S_init_154 : Dc m_S_init 154 (.iload_n 1) 1 155 := ⟨by decide +kernel, rfl⟩
set_option maxRecDepth 100000 in
theorem d_S_init_155 : Dc m_S_init 155 (.new 72) 3 158 := ⟨by decide +kernel, rfl⟩
set_option maxRecDepth 100000 in
theorem d_S_init_158 : Dc m_S_init 158 .dup 1 159 := ⟨by decide +kernel, rfl⟩
set_option maxRecDepth 100000 in
theorem d_S_init_159 : Dc m_S_init 159 (.invokespecial 91) 3 162 := ⟨by decide +kernel, rfl⟩
set_option maxRecDepth 100000 in
theorem d_S_init_162 : Dc m_S_init 162 .aastore 1 163 := ⟨by decide +kernel, rfl⟩
set_option maxRecDepth 100000 in
theorem d_S_init_163 : Dc m_S_init 163 (.iinc 1 (1)) 3 166 := ⟨by decide +kernel, rfl⟩
set_option maxRecDepth 100000 in
theorem d_S_init_166 : Dj m_S_init 166 .goto 169 145 := ⟨-21, by decide +kernel, rfl, by decide⟩
set_option maxRecDepth 100000 in
theorem d_S_init_169 : Dc m_S_init 169 (.iconst 0) 1 170 := ⟨by decide +kernel, rfl⟩
set_option maxRecDepth 100000 in
theorem d_S_init_170 : Dc m_S_init 170 (.istore_n 1) 1 171 := ⟨by decide +kernel, rfl⟩
set_option maxRecDepth 100000 in
theorem d_S_init_171 : Dc m_S_init 171 (.iload_n 1) 1 172 := ⟨by decide +kernel, rfl⟩
set_option maxRecDepth 100000 in
theorem d_S_init_172 : Dc m_S_init 172 (.iconst 4) 1 173 := ⟨by decide +kernel, rfl⟩
set_option maxRecDepth 100000 in
theorem d_S_init_173 : Dj m_S_init 173 (.if_icmp .ge) 176 195 := ⟨22, by decide +kernel, rfl, by decide⟩
set_option maxRecDepth 100000 in
theorem d_S_init_176 : Dc m_S_init 176 (.aload_n 0) 1 177 := ⟨by decide +kernel, rfl⟩
set_option maxRecDepth 100000 in
theorem d_S_init_177 : Dc m_S_init 177 (.getfield 80) 3 180 := ⟨by decide +kernel, rfl⟩
set_option maxRecDepth 100000 in
theorem d_S_init_180 : Dc m_S_init 180 (.iload_n 1) 1 181 := ⟨by decide +kernel, rfl⟩
set_option maxRecDepth 100000 in
theorem d_S_init_181 : Dc m_S_init 181 (.new 78) 3 184 := ⟨by decide +kernel, rfl⟩
set_option maxRecDepth 100000 in
theorem d_S_init_184 : Dc m_S_init 184 .dup 1 185 := ⟨by decide +kernel, rfl⟩
set_option maxRecDepth 100000 in
theorem d_S_init_185 : Dc m_S_init 185 (.invokespecial 92) 3 188 := ⟨by decide +kernel, rfl⟩
set_option maxRecDepth 100000 in
theorem d_S_init_188 : Dc m_S_init 188 .aastore 1 189 := ⟨by decide +kernel, rfl⟩
set_option maxRecDepth 100000 in
theorem d_S_init_189 : Dc m_S_init 189 (.iinc 1 (1)) 3 192 := ⟨by decide +kernel, rfl⟩
set_option maxRecDepth 100000 in
theorem d_S_init_192 : Dj m_S_init 192 .goto 195 171 := ⟨-21, by decide +kernel, rfl, by decide⟩
set_option maxRecDepth 100000 in
theorem d_S_init_195 : Dc m_S_init 195 .return_ 1 196 := ⟨by decide +kernel, rfl⟩
set_option maxRecDepth 100000 in
theorem d_S_feed_0 : Dc m_S_feed 0 (.iload_n 3) 1 1 := ⟨by decide +kernel, rfl⟩
set_option maxRecDepth 100000 in
theorem d_S_feed_1 : Dc m_S_feed 1 (.iconst 1) 1 2 := ⟨by decide +kernel, rfl⟩
set_option maxRecDepth 100000 in
theorem d_S_feed_2 : Dj m_S_feed 2 (.if_icmp .lt) 5 11 := ⟨9, by decide +kernel, rfl, by decide⟩
set_option maxRecDepth 100000 in
theorem d_S_feed_5 : Dc m_S_feed 5 (.iload_n 3) 1 6 := ⟨by decide +kernel, rfl⟩
set_option maxRecDepth 100000 in
theorem d_S_feed_6 : Dc m_S_feed 6 (.bipush (8)) 2 8 := ⟨by decide +kernel, rfl⟩
set_option maxRecDepth 100000 in
theorem d_S_feed_8 : Dj m_S_feed 8 (.if_icmp .le) 11 13 := ⟨5, by decide +kernel, rfl, by decide⟩
set_option maxRecDepth 100000 in
theorem d_S_feed_11 : Dc m_S_feed 11 (.iconst (-1)) 1 12 := ⟨by decide +kernel, rfl⟩
set_option maxRecDepth 100000 in
theorem d_S_feed_12 : Dc m_S_feed 12 .ireturn 1 13 := ⟨by decide +kernel, rfl⟩
set_option maxRecDepth 100000 in
theorem d_S_feed_13 : Dc m_S_feed 13 (.aload_n 0) 1 14 := ⟨by decide +kernel, rfl⟩
set_option maxRecDepth 100000 in
theorem d_S_feed_14 : Dc m_S_feed 14 (.getfield 26) 3 17 := ⟨by decide +kernel, rfl⟩
set_option maxRecDepth 100000 in
theorem d_S_feed_17 : Dc m_S_feed 17 (.getfield 93) 3 20 := ⟨by decide +kernel, rfl⟩
set_option maxRecDepth 100000 in
theorem d_S_feed_20 : Dc m_S_feed 20 (.iload_n 3) 1 21 := ⟨by decide +kernel, rfl⟩
set_option maxRecDepth 100000 in
theorem d_S_feed_21 : Dc m_S_feed 21 .iadd 1 22 := ⟨by decide +kernel, rfl⟩
set_option maxRecDepth 100000 in
theorem d_S_feed_22 : Dc m_S_feed 22 (.sipush (200)) 3 25 := ⟨by decide +kernel, rfl⟩
set_option maxRecDepth 100000 in
theorem d_S_feed_25 : Dj m_S_feed 25 (.if_icmp .le) 28 31 := ⟨6, by decide +kernel, rfl, by decide⟩
set_option maxRecDepth 100000 in
theorem d_S_feed_28 : Dc m_S_feed 28 (.bipush (-2)) 2 30 := ⟨by decide +kernel, rfl⟩
set_option maxRecDepth 100000 in
theorem d_S_feed_30 : Dc m_S_feed 30 .ireturn 1 31 := ⟨by decide +kernel, rfl⟩
set_option maxRecDepth 100000 in
theorem d_S_feed_31 : Dc m_S_feed 31 (.iconst 0) 1 32 := ⟨by decide +kernel, rfl⟩
set_option maxRecDepth 100000 in
theorem d_S_feed_32 : Dc m_S_feed 32 (.istore 4) 2 34 := ⟨by decide +kernel, rfl⟩
set_option maxRecDepth 100000 in
theorem d_S_feed_34 : Dc m_S_feed 34 (.iload 4) 2 36 := ⟨by decide +kernel, rfl⟩
set_option maxRecDepth 100000 in
theorem d_S_feed_36 : Dc m_S_feed 36 (.iload_n 3) 1 37 := ⟨by decide +kernel, rfl⟩
set_option maxRecDepth 100000 in
theorem d_S_feed_37 : Dj m_S_feed 37 (.if_icmp .ge) 40 62 := ⟨25, by decide +kernel, rfl, by decide⟩
set_option maxRecDepth 100000 in
theorem d_S_feed_40 : Dc m_S_feed 40 (.aload_n 0) 1 41 := ⟨by decide +kernel, rfl⟩
set_option maxRecDepth 100000 in
theorem d_S_feed_41 : Dc m_S_feed 41 (.getfield 26) 3 44 := ⟨by decide +kernel, rfl⟩
set_option maxRecDepth 100000 in
theorem d_S_feed_44 : Dc m_S_feed 44 (.lload_n 1) 1 45 := ⟨by decide +kernel, rfl⟩
set_option maxRecDepth 100000 in
theorem d_S_feed_45 : Dc m_S_feed 45 (.bipush (8)) 2 47 := ⟨by decide +kernel, rfl⟩
set_option maxRecDepth 100000 in
theorem d_S_feed_47 : Dc m_S_feed 47 (.iload 4) 2 49 := ⟨by decide +kernel, rfl⟩
set_option maxRecDepth 100000 in
theorem d_S_feed_49 : Dc m_S_feed 49 .imul 1 50 := ⟨by decide +kernel, rfl⟩
set_option maxRecDepth 100000 in
theorem d_S_feed_50 : Dc m_S_feed 50 .lushr 1 51 := ⟨by decide +kernel, rfl⟩
set_option maxRecDepth 100000 in
theorem d_S_feed_51 : Dc m_S_feed 51 .l2i 1 52 := ⟨by decide +kernel, rfl⟩
set_option maxRecDepth 100000 in
theorem d_S_feed_52 : Dc m_S_feed 52 .i2b 1 53 := ⟨by decide +kernel, rfl⟩
set_option maxRecDepth 100000 in
theorem d_S_feed_53 : Dc m_S_feed 53 (.invokevirtual 97) 3 56 := ⟨by decide +kernel, rfl⟩
set_option maxRecDepth 100000 in
theorem d_S_feed_56 : Dc m_S_feed 56 (.iinc 4 (1)) 3 59 := ⟨by decide +kernel, rfl⟩
set_option maxRecDepth 100000 in
theorem d_S_feed_59 : Dj m_S_feed 59 .goto 62 34 := ⟨-25, by decide +kernel, rfl, by decide⟩
set_option maxRecDepth 100000 in
theorem d_S_feed_62 : Dc m_S_feed 62 (.aload_n 0) 1 63 := ⟨by decide +kernel, rfl⟩
set_option maxRecDepth 100000 in
theorem d_S_feed_63 : Dc m_S_feed 63 (.getfield 26) 3 66 := ⟨by decide +kernel, rfl⟩
set_option maxRecDepth 100000 in
theorem d_S_feed_66 : Dc m_S_feed 66 (.getfield 93) 3 69 := ⟨by decide +kernel, rfl⟩
set_option maxRecDepth 100000 in
theorem d_S_feed_69 : Dc m_S_feed 69 .ireturn 1 70 := ⟨by decide +kernel, rfl⟩
set_option maxRecDepth 100000 in
theorem d_S_lesson_0 : Dc m_S_lesson 0 (.aload_n 0) 1 1 := ⟨by decide +kernel, rfl⟩
set_option maxRecDepth 100000 in
theorem d_S_lesson_1 : Dc m_S_lesson 1 (.getfield 26) 3 4 := ⟨by decide +kernel, rfl⟩
set_option maxRecDepth 100000 in
theorem d_S_lesson_4 : Dc m_S_lesson 4 (.aload_n 0) 1 5 := ⟨by decide +kernel, rfl⟩
set_option maxRecDepth 100000 in
theorem d_S_lesson_5 : Dc m_S_lesson 5 (.getfield 33) 3 8 := ⟨by decide +kernel, rfl⟩
set_option maxRecDepth 100000 in
theorem d_S_lesson_8 : Dc m_S_lesson 8 (.invokevirtual 101) 3 11 := ⟨by decide +kernel, rfl⟩
set_option maxRecDepth 100000 in
theorem d_S_lesson_11 : Dc m_S_lesson 11 (.istore_n 1) 1 12 := ⟨by decide +kernel, rfl⟩
set_option maxRecDepth 100000 in
theorem d_S_lesson_12 : Dc m_S_lesson 12 (.aload_n 0) 1 13 := ⟨by decide +kernel, rfl⟩
set_option maxRecDepth 100000 in
theorem d_S_lesson_13 : Dc m_S_lesson 13 (.getfield 26) 3 16 := ⟨by decide +kernel, rfl⟩
set_option maxRecDepth 100000 in
theorem d_S_lesson_16 : Dc m_S_lesson 16 (.getfield 105) 3 19 := ⟨by decide +kernel, rfl⟩
set_option maxRecDepth 100000 in
theorem d_S_lesson_19 : Dc m_S_lesson 19 (.istore_n 2) 1 20 := ⟨by decide +kernel, rfl⟩
set_option maxRecDepth 100000 in
theorem d_S_lesson_20 : Dc m_S_lesson 20 (.aload_n 0) 1 21 := ⟨by decide +kernel, rfl⟩
set_option maxRecDepth 100000 in
theorem d_S_lesson_21 : Dc m_S_lesson 21 (.getfield 26) 3 24 := ⟨by decide +kernel, rfl⟩
set_option maxRecDepth 100000 in
theorem d_S_lesson_24 : Dc m_S_lesson 24 (.iconst 0) 1 25 := ⟨by decide +kernel, rfl⟩
set_option maxRecDepth 100000 in
theorem d_S_lesson_25 : Dc m_S_lesson 25 (.putfield 93) 3 28 := ⟨by decide +kernel, rfl⟩
set_option maxRecDepth 100000 in
theorem d_S_lesson_28 : Dc m_S_lesson 28 (.iload_n 1) 1 29 := ⟨by decide +kernel, rfl⟩
set_option maxRecDepth 100000 in
theorem d_S_lesson_29 : Dj m_S_lesson 29 (.ifCond .ne) 32 37 := ⟨8, by decide +kernel, rfl, by decide⟩
set_option maxRecDepth 100000 in
theorem d_S_lesson_32 : Dc m_S_lesson 32 (.bipush (-100)) 2 34 := ⟨by decide +kernel, rfl⟩
set_option maxRecDepth 100000 in
theorem d_S_lesson_34 : Dc m_S_lesson 34 (.iload_n 2) 1 35 := ⟨by decide +kernel, rfl⟩
set_option maxRecDepth 100000 in
theorem d_S_lesson_35 : Dc m_S_lesson 35 .isub 1 36 := ⟨by decide +kernel, rfl⟩
set_option maxRecDepth 100000 in
theorem d_S_lesson_36 : Dc m_S_lesson 36 .ireturn 1 37 := ⟨by decide +kernel, rfl⟩
set_option maxRecDepth 100000 in
theorem d_S_lesson_37 : Dc m_S_lesson 37 (.aload_n 0) 1 38 := ⟨by decide +kernel, rfl⟩
set_option maxRecDepth 100000 in
theorem d_S_lesson_38 : Dc m_S_lesson 38 (.getfield 12) 3 41 := ⟨by decide +kernel, rfl⟩
set_option maxRecDepth 100000 in
theorem d_S_lesson_41 : Dc m_S_lesson 41 (.getfield 108) 3 44 := ⟨by decide +kernel, rfl⟩
set_option maxRecDepth 100000 in
theorem d_S_lesson_44 : Dc m_S_lesson 44 (.aload_n 0) 1 45 := ⟨by decide +kernel, rfl⟩
set_option maxRecDepth 100000 in
theorem d_S_lesson_45 : Dc m_S_lesson 45 (.getfield 33) 3 48 := ⟨by decide +kernel, rfl⟩
set_option maxRecDepth 100000 in
theorem d_S_lesson_48 : Dc m_S_lesson 48 (.invokevirtual 111) 3 51 := ⟨by decide +kernel, rfl⟩
set_option maxRecDepth 100000 in
theorem d_S_lesson_51 : Dc m_S_lesson 51 (.aload_n 0) 1 52 := ⟨by decide +kernel, rfl⟩
set_option maxRecDepth 100000 in
theorem d_S_lesson_52 : Dc m_S_lesson 52 (.getfield 12) 3 55 := ⟨by decide +kernel, rfl⟩
set_option maxRecDepth 100000 in
theorem d_S_lesson_55 : Dc m_S_lesson 55 (.getfield 108) 3 58 := ⟨by decide +kernel, rfl⟩
set_option maxRecDepth 100000 in
theorem d_S_lesson_58 : Dc m_S_lesson 58 (.getfield 115) 3 61 := ⟨by decide +kernel, rfl⟩
set_option maxRecDepth 100000 in
theorem d_S_lesson_61 : Dc m_S_lesson 61 .ireturn 1 62 := ⟨by decide +kernel, rfl⟩
set_option maxRecDepth 100000 in
theorem d_S_learner_0 : Dc m_S_learner 0 (.iload_n 1) 1 1 := ⟨by decide +kernel, rfl⟩
set_option maxRecDepth 100000 in
theorem d_S_learner_1 : Dj m_S_learner 1 (.ifCond .lt) 4 19 := ⟨18, by decide +kernel, rfl, by decide⟩
set_option maxRecDepth 100000 in
theorem d_S_learner_4 : Dc m_S_learner 4 (.iload_n 1) 1 5 := ⟨by decide +kernel, rfl⟩
set_option maxRecDepth 100000 in
theorem d_S_learner_5 : Dc m_S_learner 5 (.bipush (6)) 2 7 := ⟨by decide +kernel, rfl⟩
set_option maxRecDepth 100000 in
theorem d_S_learner_7 : Dj m_S_learner 7 (.if_icmp .ge) 10 19 := ⟨12, by decide +kernel, rfl, by decide⟩
set_option maxRecDepth 100000 in
theorem d_S_learner_10 : Dc m_S_learner 10 (.iload_n 2) 1 11 := ⟨by decide +kernel, rfl⟩
set_option maxRecDepth 100000 in
theorem d_S_learner_11 : Dc m_S_learner 11 (.bipush (40)) 2 13 := ⟨by decide +kernel, rfl⟩
set_option maxRecDepth 100000 in
theorem d_S_learner_13 : Dc m_S_learner 13 (.invokestatic 118) 3 16 := ⟨by decide +kernel, rfl⟩
set_option maxRecDepth 100000 in
theorem d_S_learner_16 : Dj m_S_learner 16 (.ifCond .ne) 19 21 := ⟨5, by decide +kernel, rfl, by decide⟩
set_option maxRecDepth 100000 in
theorem d_S_learner_19 : Dc m_S_learner 19 (.iconst (-1)) 1 20 := ⟨by decide +kernel, rfl⟩
set_option maxRecDepth 100000 in
theorem d_S_learner_20 : Dc m_S_learner 20 .ireturn 1 21 := ⟨by decide +kernel, rfl⟩
set_option maxRecDepth 100000 in
theorem d_S_learner_21 : Dc m_S_learner 21 (.aload_n 0) 1 22 := ⟨by decide +kernel, rfl⟩
set_option maxRecDepth 100000 in
theorem d_S_learner_22 : Dc m_S_learner 22 (.getfield 12) 3 25 := ⟨by decide +kernel, rfl⟩
set_option maxRecDepth 100000 in
theorem d_S_learner_25 : Dc m_S_learner 25 (.getfield 122) 3 28 := ⟨by decide +kernel, rfl⟩
set_option maxRecDepth 100000 in
theorem d_S_learner_28 : Dc m_S_learner 28 (.iconst 4) 1 29 := ⟨by decide +kernel, rfl⟩
set_option maxRecDepth 100000 in
theorem d_S_learner_29 : Dj m_S_learner 29 (.if_icmp .lt) 32 35 := ⟨6, by decide +kernel, rfl, by decide⟩
set_option maxRecDepth 100000 in
theorem d_S_learner_32 : Dc m_S_learner 32 (.bipush (-2)) 2 34 := ⟨by decide +kernel, rfl⟩
set_option maxRecDepth 100000 in
theorem d_S_learner_34 : Dc m_S_learner 34 .ireturn 1 35 := ⟨by decide +kernel, rfl⟩
set_option maxRecDepth 100000 in
theorem d_S_learner_35 : Dc m_S_learner 35 (.aload_n 0) 1 36 := ⟨by decide +kernel, rfl⟩
set_option maxRecDepth 100000 in
theorem d_S_learner_36 : Dc m_S_learner 36 (.getfield 12) 3 39 := ⟨by decide +kernel, rfl⟩
set_option maxRecDepth 100000 in
theorem d_S_learner_39 : Dc m_S_learner 39 (.iload_n 1) 1 40 := ⟨by decide +kernel, rfl⟩
set_option maxRecDepth 100000 in
theorem d_S_learner_40 : Dc m_S_learner 40 (.iload_n 2) 1 41 := ⟨by decide +kernel, rfl⟩
set_option maxRecDepth 100000 in
theorem d_S_learner_41 : Dc m_S_learner 41 (.invokevirtual 123) 3 44 := ⟨by decide +kernel, rfl⟩
set_option maxRecDepth 100000 in
theorem d_S_learner_44 : Dc m_S_learner 44 .ireturn 1 45 := ⟨by decide +kernel, rfl⟩
set_option maxRecDepth 100000 in
theorem d_S_learnerOf_0 : Dc m_S_learnerOf 0 (.aload_n 0) 1 1 := ⟨by decide +kernel, rfl⟩
set_option maxRecDepth 100000 in
theorem d_S_learnerOf_1 : Dc m_S_learnerOf 1 (.getfield 12) 3 4 := ⟨by decide +kernel, rfl⟩
set_option maxRecDepth 100000 in
theorem d_S_learnerOf_4 : Dc m_S_learnerOf 4 (.iload_n 1) 1 5 := ⟨by decide +kernel, rfl⟩
set_option maxRecDepth 100000 in
theorem d_S_learnerOf_5 : Dc m_S_learnerOf 5 (.invokevirtual 127) 3 8 := ⟨by decide +kernel, rfl⟩
set_option maxRecDepth 100000 in
theorem d_S_learnerOf_8 : Dc m_S_learnerOf 8 (.astore_n 3) 1 9 := ⟨by decide +kernel, rfl⟩
set_option maxRecDepth 100000 in
theorem d_S_learnerOf_9 : Dc m_S_learnerOf 9 (.aload_n 3) 1 10 := ⟨by decide +kernel, rfl⟩
set_option maxRecDepth 100000 in
theorem d_S_learnerOf_10 : Dj m_S_learnerOf 10 .ifnonnull 13 15 := ⟨5, by decide +kernel, rfl, by decide⟩
set_option maxRecDepth 100000 in
theorem d_S_learnerOf_13 : Dc m_S_learnerOf 13 (.iconst (-1)) 1 14 := ⟨by decide +kernel, rfl⟩
set_option maxRecDepth 100000 in
theorem d_S_learnerOf_14 : Dc m_S_learnerOf 14 .ireturn 1 15 := ⟨by decide +kernel, rfl⟩
set_option maxRecDepth 100000 in
theorem d_S_learnerOf_15 : Dc m_S_learnerOf 15 (.iload_n 2) 1 16 := ⟨by decide +kernel, rfl⟩
set_option maxRecDepth 100000 in
theorem d_S_learnerOf_16 : Ts m_S_learnerOf 16 [(0, 44), (1, 49), (2, 54)] 59 := ⟨43, 0, 2, [28, 33, 38], 28, by decide +kernel, by decide, by decide +kernel⟩
set_option maxRecDepth 100000 in
theorem d_S_learnerOf_44 : Dc m_S_learnerOf 44 (.aload_n 3) 1 45 := ⟨by decide +kernel, rfl⟩
set_option maxRecDepth 100000 in
theorem d_S_learnerOf_45 : Dc m_S_learnerOf 45 (.getfield 131) 3 48 := ⟨by decide +kernel, rfl⟩
set_option maxRecDepth 100000 in
theorem d_S_learnerOf_48 : Dc m_S_learnerOf 48 .ireturn 1 49 := ⟨by decide +kernel, rfl⟩
set_option maxRecDepth 100000 in
theorem d_S_learnerOf_49 : Dc m_S_learnerOf 49 (.aload_n 3) 1 50 := ⟨by decide +kernel, rfl⟩
set_option maxRecDepth 100000 in
theorem d_S_learnerOf_50 : Dc m_S_learnerOf 50 (.getfield 134) 3 53 := ⟨by decide +kernel, rfl⟩
set_option maxRecDepth 100000 in
theorem d_S_learnerOf_53 : Dc m_S_learnerOf 53 .ireturn 1 54 := ⟨by decide +kernel, rfl⟩
set_option maxRecDepth 100000 in
theorem d_S_learnerOf_54 : Dc m_S_learnerOf 54 (.aload_n 3) 1 55 := ⟨by decide +kernel, rfl⟩
set_option maxRecDepth 100000 in
theorem d_S_learnerOf_55 : Dc m_S_learnerOf 55 (.invokevirtual 137) 3 58 := ⟨by decide +kernel, rfl⟩
set_option maxRecDepth 100000 in
theorem d_S_learnerOf_58 : Dc m_S_learnerOf 58 .ireturn 1 59 := ⟨by decide +kernel, rfl⟩
set_option maxRecDepth 100000 in
theorem d_S_learnerOf_59 : Dc m_S_learnerOf 59 (.iconst (-1)) 1 60 := ⟨by decide +kernel, rfl⟩
set_option maxRecDepth 100000 in
theorem d_S_learnerOf_60 : Dc m_S_learnerOf 60 .ireturn 1 61 := ⟨by decide +kernel, rfl⟩
set_option maxRecDepth 100000 in
theorem d_S_pair_0 : Dc m_S_pair 0 (.iload_n 1) 1 1 := ⟨by decide +kernel, rfl⟩
set_option maxRecDepth 100000 in
theorem d_S_pair_1 : Dc m_S_pair 1 (.iload_n 2) 1 2 := ⟨by decide +kernel, rfl⟩
set_option maxRecDepth 100000 in
theorem d_S_pair_2 : Dc m_S_pair 2 (.invokestatic 141) 3 5 := ⟨by decide +kernel, rfl⟩
set_option maxRecDepth 100000 in
theorem d_S_pair_5 : Dc m_S_pair 5 .ireturn 1 6 := ⟨by decide +kernel, rfl⟩
set_option maxRecDepth 100000 in
theorem d_S_pairOf_0 : Dc m_S_pairOf 0 (.iload_n 1) 1 1 := ⟨by decide +kernel, rfl⟩
set_option maxRecDepth 100000 in
theorem d_S_pairOf_1 : Dc m_S_pairOf 1 (.invokestatic 144) 3 4 := ⟨by decide +kernel, rfl⟩
set_option maxRecDepth 100000 in
theorem d_S_pairOf_4 : Dj m_S_pairOf 4 (.ifCond .ne) 7 9 := ⟨5, by decide +kernel, rfl, by decide⟩
set_option maxRecDepth 100000 in
theorem d_S_pairOf_7 : Dc m_S_pairOf 7 (.iconst (-1)) 1 8 := ⟨by decide +kernel, rfl⟩
set_option maxRecDepth 100000 in
theorem d_S_pairOf_8 : Dc m_S_pairOf 8 .ireturn 1 9 := ⟨by decide +kernel, rfl⟩
set_option maxRecDepth 100000 in
theorem d_S_pairOf_9 : Dc m_S_pairOf 9 (.iload_n 2) 1 10 := ⟨by decide +kernel, rfl⟩
set_option maxRecDepth 100000 in
theorem d_S_pairOf_10 : Ts m_S_pairOf 10 [(0, 40), (1, 46), (2, 52), (3, 57)] 62 := ⟨52, 0, 3, [30, 36, 42, 47], 30, by decide +kernel, by decide, by decide +kernel⟩
set_option maxRecDepth 100000 in
theorem d_S_pairOf_40 : Dc m_S_pairOf 40 (.getstatic 148) 3 43 := ⟨by decide +kernel, rfl⟩
set_option maxRecDepth 100000 in
theorem d_S_pairOf_43 : Dc m_S_pairOf 43 (.iload_n 1) 1 44 := ⟨by decide +kernel, rfl⟩
set_option maxRecDepth 100000 in
theorem d_S_pairOf_44 : Dc m_S_pairOf 44 .iaload 1 45 := ⟨by decide +kernel, rfl⟩
set_option maxRecDepth 100000 in
theorem d_S_pairOf_45 : Dc m_S_pairOf 45 .ireturn 1 46 := ⟨by decide +kernel, rfl⟩
set_option maxRecDepth 100000 in
theorem d_S_pairOf_46 : Dc m_S_pairOf 46 (.getstatic 151) 3 49 := ⟨by decide +kernel, rfl⟩
set_option maxRecDepth 100000 in
theorem d_S_pairOf_49 : Dc m_S_pairOf 49 (.iload_n 1) 1 50 := ⟨by decide +kernel, rfl⟩
set_option maxRecDepth 100000 in
theorem d_S_pairOf_50 : Dc m_S_pairOf 50 .iaload 1 51 := ⟨by decide +kernel, rfl⟩
set_option maxRecDepth 100000 in
theorem d_S_pairOf_51 : Dc m_S_pairOf 51 .ireturn 1 52 := ⟨by decide +kernel, rfl⟩
set_option maxRecDepth 100000 in
theorem d_S_pairOf_52 : Dc m_S_pairOf 52 (.iload_n 1) 1 53 := ⟨by decide +kernel, rfl⟩
set_option maxRecDepth 100000 in
theorem d_S_pairOf_53 : Dc m_S_pairOf 53 (.invokestatic 154) 3 56 := ⟨by decide +kernel, rfl⟩
set_option maxRecDepth 100000 in
theorem d_S_pairOf_56 : Dc m_S_pairOf 56 .ireturn 1 57 := ⟨by decide +kernel, rfl⟩
set_option maxRecDepth 100000 in
theorem d_S_pairOf_57 : Dc m_S_pairOf 57 (.iload_n 1) 1 58 := ⟨by decide +kernel, rfl⟩
set_option maxRecDepth 100000 in
theorem d_S_pairOf_58 : Dc m_S_pairOf 58 (.invokestatic 158) 3 61 := ⟨by decide +kernel, rfl⟩
set_option maxRecDepth 100000 in
theorem d_S_pairOf_61 : Dc m_S_pairOf 61 .ireturn 1 62 := ⟨by decide +kernel, rfl⟩
set_option maxRecDepth 100000 in
theorem d_S_pairOf_62 : Dc m_S_pairOf 62 (.iconst (-1)) 1 63 := ⟨by decide +kernel, rfl⟩
set_option maxRecDepth 100000 in
theorem d_S_pairOf_63 : Dc m_S_pairOf 63 .ireturn 1 64 := ⟨by decide +kernel, rfl⟩
set_option maxRecDepth 100000 in
theorem d_S_tied_0 : Dc m_S_tied 0 (.iload_n 1) 1 1 := ⟨by decide +kernel, rfl⟩
set_option maxRecDepth 100000 in
theorem d_S_tied_1 : Dc m_S_tied 1 (.invokestatic 144) 3 4 := ⟨by decide +kernel, rfl⟩
set_option maxRecDepth 100000 in
theorem d_S_tied_4 : Dj m_S_tied 4 (.ifCond .ne) 7 11 := ⟨7, by decide +kernel, rfl, by decide⟩
set_option maxRecDepth 100000 in
theorem d_S_tied_7 : Dc m_S_tied 7 (.ldc2_w 161) 3 10 := ⟨by decide +kernel, rfl⟩
set_option maxRecDepth 100000 in
theorem d_S_tied_10 : Dc m_S_tied 10 .lreturn 1 11 := ⟨by decide +kernel, rfl⟩
set_option maxRecDepth 100000 in
theorem d_S_tied_11 : Dc m_S_tied 11 (.lconst 0) 1 12 := ⟨by decide +kernel, rfl⟩
set_option maxRecDepth 100000 in
theorem d_S_tied_12 : Dc m_S_tied 12 (.lstore_n 2) 1 13 := ⟨by decide +kernel, rfl⟩
set_option maxRecDepth 100000 in
theorem d_S_tied_13 : Dc m_S_tied 13 (.iconst 0) 1 14 := ⟨by decide +kernel, rfl⟩
set_option maxRecDepth 100000 in
theorem d_S_tied_14 : Dc m_S_tied 14 (.istore 4) 2 16 := ⟨by decide +kernel, rfl⟩
set_option maxRecDepth 100000 in
theorem d_S_tied_16 : Dc m_S_tied 16 (.iload 4) 2 18 := ⟨by decide +kernel, rfl⟩
set_option maxRecDepth 100000 in
theorem d_S_tied_18 : Dc m_S_tied 18 (.iconst 4) 1 19 := ⟨by decide +kernel, rfl⟩
set_option maxRecDepth 100000 in
theorem d_S_tied_19 : Dj m_S_tied 19 (.if_icmp .ge) 22 48 := ⟨29, by decide +kernel, rfl, by decide⟩
set_option maxRecDepth 100000 in
theorem d_S_tied_22 : Dc m_S_tied 22 (.iload_n 1) 1 23 := ⟨by decide +kernel, rfl⟩
set_option maxRecDepth 100000 in
theorem d_S_tied_23 : Dc m_S_tied 23 (.iload 4) 2 25 := ⟨by decide +kernel, rfl⟩
set_option maxRecDepth 100000 in
theorem d_S_tied_25 : Dc m_S_tied 25 (.invokestatic 163) 3 28 := ⟨by decide +kernel, rfl⟩
set_option maxRecDepth 100000 in
theorem d_S_tied_28 : Dc m_S_tied 28 (.istore 5) 2 30 := ⟨by decide +kernel, rfl⟩
set_option maxRecDepth 100000 in
theorem d_S_tied_30 : Dc m_S_tied 30 (.iload 5) 2 32 := ⟨by decide +kernel, rfl⟩
set_option maxRecDepth 100000 in
theorem d_S_tied_32 : Dj m_S_tied 32 (.ifCond .lt) 35 42 := ⟨10, by decide +kernel, rfl, by decide⟩
set_option maxRecDepth 100000 in
theorem d_S_tied_35 : Dc m_S_tied 35 (.lload_n 2) 1 36 := ⟨by decide +kernel, rfl⟩
set_option maxRecDepth 100000 in
theorem d_S_tied_36 : Dc m_S_tied 36 (.lconst 1) 1 37 := ⟨by decide +kernel, rfl⟩
set_option maxRecDepth 100000 in
theorem d_S_tied_37 : Dc m_S_tied 37 (.iload 5) 2 39 := ⟨by decide +kernel, rfl⟩
set_option maxRecDepth 100000 in
theorem d_S_tied_39 : Dc m_S_tied 39 .lshl 1 40 := ⟨by decide +kernel, rfl⟩
set_option maxRecDepth 100000 in
theorem d_S_tied_40 : Dc m_S_tied 40 .lor 1 41 := ⟨by decide +kernel, rfl⟩
set_option maxRecDepth 100000 in
theorem d_S_tied_41 : Dc m_S_tied 41 (.lstore_n 2) 1 42 := ⟨by decide +kernel, rfl⟩
set_option maxRecDepth 100000 in
theorem d_S_tied_42 : Dc m_S_tied 42 (.iinc 4 (1)) 3 45 := ⟨by decide +kernel, rfl⟩
set_option maxRecDepth 100000 in
theorem d_S_tied_45 : Dj m_S_tied 45 .goto 48 16 := ⟨-29, by decide +kernel, rfl, by decide⟩
set_option maxRecDepth 100000 in
theorem d_S_tied_48 : Dc m_S_tied 48 (.lload_n 2) 1 49 := ⟨by decide +kernel, rfl⟩
set_option maxRecDepth 100000 in
theorem d_S_tied_49 : Dc m_S_tied 49 .lreturn 1 50 := ⟨by decide +kernel, rfl⟩
set_option maxRecDepth 100000 in
theorem d_S_head_0 : Dc m_S_head 0 (.aload_n 0) 1 1 := ⟨by decide +kernel, rfl⟩
set_option maxRecDepth 100000 in
theorem d_S_head_1 : Dc m_S_head 1 (.getfield 12) 3 4 := ⟨by decide +kernel, rfl⟩
set_option maxRecDepth 100000 in
theorem d_S_head_4 : Dc m_S_head 4 (.iload_n 1) 1 5 := ⟨by decide +kernel, rfl⟩
set_option maxRecDepth 100000 in
theorem d_S_head_5 : Dc m_S_head 5 (.invokevirtual 127) 3 8 := ⟨by decide +kernel, rfl⟩
set_option maxRecDepth 100000 in
theorem d_S_head_8 : Dc m_S_head 8 (.astore 4) 2 10 := ⟨by decide +kernel, rfl⟩
set_option maxRecDepth 100000 in
theorem d_S_head_10 : Dc m_S_head 10 (.aload 4) 2 12 := ⟨by decide +kernel, rfl⟩
set_option maxRecDepth 100000 in
theorem d_S_head_12 : Dj m_S_head 12 .ifnull 15 22 := ⟨10, by decide +kernel, rfl, by decide⟩
set_option maxRecDepth 100000 in
theorem d_S_head_15 : Dc m_S_head 15 (.iload_n 2) 1 16 := ⟨by decide +kernel, rfl⟩
set_option maxRecDepth 100000 in
theorem d_S_head_16 : Dc m_S_head 16 (.invokestatic 144) 3 19 := ⟨by decide +kernel, rfl⟩
set_option maxRecDepth 100000 in
theorem d_S_head_19 : Dj m_S_head 19 (.ifCond .ne) 22 24 := ⟨5, by decide +kernel, rfl, by decide⟩
set_option maxRecDepth 100000 in
theorem d_S_head_22 : Dc m_S_head 22 (.iconst (-1)) 1 23 := ⟨by decide +kernel, rfl⟩
set_option maxRecDepth 100000 in
theorem d_S_head_23 : Dc m_S_head 23 .ireturn 1 24 := ⟨by decide +kernel, rfl⟩
set_option maxRecDepth 100000 in
theorem d_S_head_24 : Dc m_S_head 24 (.iload_n 3) 1 25 := ⟨by decide +kernel, rfl⟩
set_option maxRecDepth 100000 in
theorem d_S_head_25 : Ts m_S_head 25 [(0, 60), (1, 68), (2, 76), (3, 84), (4, 91)] 98 := ⟨73, 0, 4, [35, 43, 51, 59, 66], 35, by decide +kernel, by decide, by decide +kernel⟩
set_option maxRecDepth 100000 in
theorem d_S_head_60 : Dc m_S_head 60 (.aload 4) 2 62 := ⟨by decide +kernel, rfl⟩
set_option maxRecDepth 100000 in
theorem d_S_head_62 : Dc m_S_head 62 (.getfield 166) 3 65 := ⟨by decide +kernel, rfl⟩
set_option maxRecDepth 100000 in
theorem d_S_head_65 : Dc m_S_head 65 (.iload_n 2) 1 66 := ⟨by decide +kernel, rfl⟩
set_option maxRecDepth 100000 in
theorem d_S_head_66 : Dc m_S_head 66 .iaload 1 67 := ⟨by decide +kernel, rfl⟩
set_option maxRecDepth 100000 in
theorem d_S_head_67 : Dc m_S_head 67 .ireturn 1 68 := ⟨by decide +kernel, rfl⟩
set_option maxRecDepth 100000 in
theorem d_S_head_68 : Dc m_S_head 68 (.aload 4) 2 70 := ⟨by decide +kernel, rfl⟩
set_option maxRecDepth 100000 in
theorem d_S_head_70 : Dc m_S_head 70 (.getfield 169) 3 73 := ⟨by decide +kernel, rfl⟩
set_option maxRecDepth 100000 in
theorem d_S_head_73 : Dc m_S_head 73 (.iload_n 2) 1 74 := ⟨by decide +kernel, rfl⟩
set_option maxRecDepth 100000 in
theorem d_S_head_74 : Dc m_S_head 74 .iaload 1 75 := ⟨by decide +kernel, rfl⟩
set_option maxRecDepth 100000 in
theorem d_S_head_75 : Dc m_S_head 75 .ireturn 1 76 := ⟨by decide +kernel, rfl⟩
set_option maxRecDepth 100000 in
theorem d_S_head_76 : Dc m_S_head 76 (.aload 4) 2 78 := ⟨by decide +kernel, rfl⟩
set_option maxRecDepth 100000 in
theorem d_S_head_78 : Dc m_S_head 78 (.getfield 172) 3 81 := ⟨by decide +kernel, rfl⟩
set_option maxRecDepth 100000 in
theorem d_S_head_81 : Dc m_S_head 81 (.iload_n 2) 1 82 := ⟨by decide +kernel, rfl⟩
set_option maxRecDepth 100000 in
theorem d_S_head_82 : Dc m_S_head 82 .iaload 1 83 := ⟨by decide +kernel, rfl⟩
set_option maxRecDepth 100000 in
theorem d_S_head_83 : Dc m_S_head 83 .ireturn 1 84 := ⟨by decide +kernel, rfl⟩
set_option maxRecDepth 100000 in
theorem d_S_head_84 : Dc m_S_head 84 (.aload 4) 2 86 := ⟨by decide +kernel, rfl⟩
set_option maxRecDepth 100000 in
theorem d_S_head_86 : Dc m_S_head 86 (.iload_n 2) 1 87 := ⟨by decide +kernel, rfl⟩
set_option maxRecDepth 100000 in
theorem d_S_head_87 : Dc m_S_head 87 (.invokevirtual 175) 3 90 := ⟨by decide +kernel, rfl⟩
set_option maxRecDepth 100000 in
theorem d_S_head_90 : Dc m_S_head 90 .ireturn 1 91 := ⟨by decide +kernel, rfl⟩
set_option maxRecDepth 100000 in
theorem d_S_head_91 : Dc m_S_head 91 (.aload 4) 2 93 := ⟨by decide +kernel, rfl⟩
set_option maxRecDepth 100000 in
theorem d_S_head_93 : Dc m_S_head 93 (.iload_n 2) 1 94 := ⟨by decide +kernel, rfl⟩
set_option maxRecDepth 100000 in
theorem d_S_head_94 : Dc m_S_head 94 (.invokevirtual 178) 3 97 := ⟨by decide +kernel, rfl⟩
set_option maxRecDepth 100000 in
theorem d_S_head_97 : Dc m_S_head 97 .ireturn 1 98 := ⟨by decide +kernel, rfl⟩
set_option maxRecDepth 100000 in
theorem d_S_head_98 : Dc m_S_head 98 (.iconst (-1)) 1 99 := ⟨by decide +kernel, rfl⟩
set_option maxRecDepth 100000 in
theorem d_S_head_99 : Dc m_S_head 99 .ireturn 1 100 := ⟨by decide +kernel, rfl⟩
set_option maxRecDepth 100000 in
theorem d_S_firm_0 : Dc m_S_firm 0 (.aload_n 0) 1 1 := ⟨by decide +kernel, rfl⟩
set_option maxRecDepth 100000 in
theorem d_S_firm_1 : Dc m_S_firm 1 (.getfield 12) 3 4 := ⟨by decide +kernel, rfl⟩
set_option maxRecDepth 100000 in
theorem d_S_firm_4 : Dc m_S_firm 4 (.iload_n 1) 1 5 := ⟨by decide +kernel, rfl⟩
set_option maxRecDepth 100000 in
theorem d_S_firm_5 : Dc m_S_firm 5 (.invokevirtual 127) 3 8 := ⟨by decide +kernel, rfl⟩
set_option maxRecDepth 100000 in
theorem d_S_firm_8 : Dc m_S_firm 8 (.astore 4) 2 10 := ⟨by decide +kernel, rfl⟩
set_option maxRecDepth 100000 in
theorem d_S_firm_10 : Dc m_S_firm 10 (.aload 4) 2 12 := ⟨by decide +kernel, rfl⟩
set_option maxRecDepth 100000 in
theorem d_S_firm_12 : Dj m_S_firm 12 .ifnull 15 31 := ⟨19, by decide +kernel, rfl, by decide⟩
set_option maxRecDepth 100000 in
theorem d_S_firm_15 : Dc m_S_firm 15 (.iload_n 2) 1 16 := ⟨by decide +kernel, rfl⟩
set_option maxRecDepth 100000 in
theorem d_S_firm_16 : Dc m_S_firm 16 (.invokestatic 144) 3 19 := ⟨by decide +kernel, rfl⟩
set_option maxRecDepth 100000 in
theorem d_S_firm_19 : Dj m_S_firm 19 (.ifCond .eq) 22 31 := ⟨12, by decide +kernel, rfl, by decide⟩
set_option maxRecDepth 100000 in
theorem d_S_firm_22 : Dc m_S_firm 22 (.iload_n 3) 1 23 := ⟨by decide +kernel, rfl⟩
set_option maxRecDepth 100000 in
theorem d_S_firm_23 : Dc m_S_firm 23 (.bipush (100)) 2 25 := ⟨by decide +kernel, rfl⟩
set_option maxRecDepth 100000 in
theorem d_S_firm_25 : Dc m_S_firm 25 (.invokestatic 118) 3 28 := ⟨by decide +kernel, rfl⟩
set_option maxRecDepth 100000 in
theorem d_S_firm_28 : Dj m_S_firm 28 (.ifCond .ne) 31 33 := ⟨5, by decide +kernel, rfl, by decide⟩
set_option maxRecDepth 100000 in
theorem d_S_firm_31 : Dc m_S_firm 31 (.iconst (-1)) 1 32 := ⟨by decide +kernel, rfl⟩
set_option maxRecDepth 100000 in
theorem d_S_firm_32 : Dc m_S_firm 32 .ireturn 1 33 := ⟨by decide +kernel, rfl⟩
set_option maxRecDepth 100000 in
theorem d_S_firm_33 : Dc m_S_firm 33 (.aload 4) 2 35 := ⟨by decide +kernel, rfl⟩
set_option maxRecDepth 100000 in
theorem d_S_firm_35 : Dc m_S_firm 35 (.getfield 166) 3 38 := ⟨by decide +kernel, rfl⟩
set_option maxRecDepth 100000 in
theorem d_S_firm_38 : Dc m_S_firm 38 (.iload_n 2) 1 39 := ⟨by decide +kernel, rfl⟩
set_option maxRecDepth 100000 in
theorem d_S_firm_39 : Dc m_S_firm 39 .iaload 1 40 := ⟨by decide +kernel, rfl⟩
set_option maxRecDepth 100000 in
theorem d_S_firm_40 : Dc m_S_firm 40 (.istore 5) 2 42 := ⟨by decide +kernel, rfl⟩
set_option maxRecDepth 100000 in
theorem d_S_firm_42 : Dc m_S_firm 42 (.aload 4) 2 44 := ⟨by decide +kernel, rfl⟩
set_option maxRecDepth 100000 in
theorem d_S_firm_44 : Dc m_S_firm 44 (.getfield 166) 3 47 := ⟨by decide +kernel, rfl⟩
set_option maxRecDepth 100000 in
theorem d_S_firm_47 : Dc m_S_firm 47 (.iload_n 2) 1 48 := ⟨by decide +kernel, rfl⟩
set_option maxRecDepth 100000 in
theorem d_S_firm_48 : Dc m_S_firm 48 (.iload_n 3) 1 49 := ⟨by decide +kernel, rfl⟩
set_option maxRecDepth 100000 in
theorem d_S_firm_49 : Dc m_S_firm 49 .iastore 1 50 := ⟨by decide +kernel, rfl⟩
set_option maxRecDepth 100000 in
theorem d_S_firm_50 : Dc m_S_firm 50 (.iload 5) 2 52 := ⟨by decide +kernel, rfl⟩
set_option maxRecDepth 100000 in
theorem d_S_firm_52 : Dc m_S_firm 52 .ireturn 1 53 := ⟨by decide +kernel, rfl⟩
set_option maxRecDepth 100000 in
theorem d_S_rights_0 : Dc m_S_rights 0 (.aload_n 0) 1 1 := ⟨by decide +kernel, rfl⟩
set_option maxRecDepth 100000 in
theorem d_S_rights_1 : Dc m_S_rights 1 (.getfield 12) 3 4 := ⟨by decide +kernel, rfl⟩
set_option maxRecDepth 100000 in
theorem d_S_rights_4 : Dc m_S_rights 4 (.iload_n 1) 1 5 := ⟨by decide +kernel, rfl⟩
set_option maxRecDepth 100000 in
theorem d_S_rights_5 : Dc m_S_rights 5 (.invokevirtual 127) 3 8 := ⟨by decide +kernel, rfl⟩
set_option maxRecDepth 100000 in
theorem d_S_rights_8 : Dc m_S_rights 8 (.astore 4) 2 10 := ⟨by decide +kernel, rfl⟩
set_option maxRecDepth 100000 in
theorem d_S_rights_10 : Dc m_S_rights 10 (.aload 4) 2 12 := ⟨by decide +kernel, rfl⟩
set_option maxRecDepth 100000 in
theorem d_S_rights_12 : Dj m_S_rights 12 .ifnull 15 31 := ⟨19, by decide +kernel, rfl, by decide⟩
set_option maxRecDepth 100000 in
theorem d_S_rights_15 : Dc m_S_rights 15 (.iload_n 2) 1 16 := ⟨by decide +kernel, rfl⟩
set_option maxRecDepth 100000 in
theorem d_S_rights_16 : Dc m_S_rights 16 (.invokestatic 144) 3 19 := ⟨by decide +kernel, rfl⟩
set_option maxRecDepth 100000 in
theorem d_S_rights_19 : Dj m_S_rights 19 (.ifCond .eq) 22 31 := ⟨12, by decide +kernel, rfl, by decide⟩
set_option maxRecDepth 100000 in
theorem d_S_rights_22 : Dc m_S_rights 22 (.iload_n 3) 1 23 := ⟨by decide +kernel, rfl⟩
set_option maxRecDepth 100000 in
theorem d_S_rights_23 : Dc m_S_rights 23 (.bipush (9)) 2 25 := ⟨by decide +kernel, rfl⟩
set_option maxRecDepth 100000 in
theorem d_S_rights_25 : Dc m_S_rights 25 (.invokestatic 118) 3 28 := ⟨by decide +kernel, rfl⟩
set_option maxRecDepth 100000 in
theorem d_S_rights_28 : Dj m_S_rights 28 (.ifCond .ne) 31 33 := ⟨5, by decide +kernel, rfl, by decide⟩
set_option maxRecDepth 100000 in
theorem d_S_rights_31 : Dc m_S_rights 31 (.iconst (-1)) 1 32 := ⟨by decide +kernel, rfl⟩
set_option maxRecDepth 100000 in
theorem d_S_rights_32 : Dc m_S_rights 32 .ireturn 1 33 := ⟨by decide +kernel, rfl⟩
set_option maxRecDepth 100000 in
theorem d_S_rights_33 : Dc m_S_rights 33 (.aload 4) 2 35 := ⟨by decide +kernel, rfl⟩
set_option maxRecDepth 100000 in
theorem d_S_rights_35 : Dc m_S_rights 35 (.getfield 169) 3 38 := ⟨by decide +kernel, rfl⟩
set_option maxRecDepth 100000 in
theorem d_S_rights_38 : Dc m_S_rights 38 (.iload_n 2) 1 39 := ⟨by decide +kernel, rfl⟩
set_option maxRecDepth 100000 in
theorem d_S_rights_39 : Dc m_S_rights 39 .iaload 1 40 := ⟨by decide +kernel, rfl⟩
set_option maxRecDepth 100000 in
theorem d_S_rights_40 : Dc m_S_rights 40 (.istore 5) 2 42 := ⟨by decide +kernel, rfl⟩
set_option maxRecDepth 100000 in
theorem d_S_rights_42 : Dc m_S_rights 42 (.aload 4) 2 44 := ⟨by decide +kernel, rfl⟩
set_option maxRecDepth 100000 in
theorem d_S_rights_44 : Dc m_S_rights 44 (.getfield 169) 3 47 := ⟨by decide +kernel, rfl⟩
set_option maxRecDepth 100000 in
theorem d_S_rights_47 : Dc m_S_rights 47 (.iload_n 2) 1 48 := ⟨by decide +kernel, rfl⟩
set_option maxRecDepth 100000 in
theorem d_S_rights_48 : Dc m_S_rights 48 (.iload_n 3) 1 49 := ⟨by decide +kernel, rfl⟩
set_option maxRecDepth 100000 in
theorem d_S_rights_49 : Dc m_S_rights 49 .iastore 1 50 := ⟨by decide +kernel, rfl⟩
set_option maxRecDepth 100000 in
theorem d_S_rights_50 : Dc m_S_rights 50 (.iload 5) 2 52 := ⟨by decide +kernel, rfl⟩
set_option maxRecDepth 100000 in
theorem d_S_rights_52 : Dc m_S_rights 52 .ireturn 1 53 := ⟨by decide +kernel, rfl⟩
set_option maxRecDepth 100000 in
theorem d_S_set_0 : Dc m_S_set 0 (.iload_n 1) 1 1 := ⟨by decide +kernel, rfl⟩
set_option maxRecDepth 100000 in
theorem d_S_set_1 : Dj m_S_set 1 (.ifCond .lt) 4 21 := ⟨20, by decide +kernel, rfl, by decide⟩
set_option maxRecDepth 100000 in
theorem d_S_set_4 : Dc m_S_set 4 (.iload_n 1) 1 5 := ⟨by decide +kernel, rfl⟩
set_option maxRecDepth 100000 in
theorem d_S_set_5 : Dc m_S_set 5 (.iconst 3) 1 6 := ⟨by decide +kernel, rfl⟩
set_option maxRecDepth 100000 in
theorem d_S_set_6 : Dj m_S_set 6 (.if_icmp .ge) 9 21 := ⟨15, by decide +kernel, rfl, by decide⟩
set_option maxRecDepth 100000 in
theorem d_S_set_9 : Dc m_S_set 9 (.iload_n 2) 1 10 := ⟨by decide +kernel, rfl⟩
set_option maxRecDepth 100000 in
theorem d_S_set_10 : Dc m_S_set 10 (.getstatic 181) 3 13 := ⟨by decide +kernel, rfl⟩
set_option maxRecDepth 100000 in
theorem d_S_set_13 : Dc m_S_set 13 (.iload_n 1) 1 14 := ⟨by decide +kernel, rfl⟩
set_option maxRecDepth 100000 in
theorem d_S_set_14 : Dc m_S_set 14 .iaload 1 15 := ⟨by decide +kernel, rfl⟩
set_option maxRecDepth 100000 in
theorem d_S_set_15 : Dc m_S_set 15 (.invokestatic 118) 3 18 := ⟨by decide +kernel, rfl⟩
set_option maxRecDepth 100000 in
theorem d_S_set_18 : Dj m_S_set 18 (.ifCond .ne) 21 23 := ⟨5, by decide +kernel, rfl, by decide⟩
set_option maxRecDepth 100000 in
theorem d_S_set_21 : Dc m_S_set 21 (.iconst (-1)) 1 22 := ⟨by decide +kernel, rfl⟩
set_option maxRecDepth 100000 in
theorem d_S_set_22 : Dc m_S_set 22 .ireturn 1 23 := ⟨by decide +kernel, rfl⟩
set_option maxRecDepth 100000 in
theorem d_S_set_23 : Dc m_S_set 23 (.aload_n 0) 1 24 := ⟨by decide +kernel, rfl⟩
set_option maxRecDepth 100000 in
theorem d_S_set_24 : Dc m_S_set 24 (.getfield 12) 3 27 := ⟨by decide +kernel, rfl⟩
set_option maxRecDepth 100000 in
theorem d_S_set_27 : Dc m_S_set 27 (.getfield 184) 3 30 := ⟨by decide +kernel, rfl⟩
set_option maxRecDepth 100000 in
theorem d_S_set_30 : Dc m_S_set 30 (.iload_n 1) 1 31 := ⟨by decide +kernel, rfl⟩
set_option maxRecDepth 100000 in
theorem d_S_set_31 : Dc m_S_set 31 .iaload 1 32 := ⟨by decide +kernel, rfl⟩
set_option maxRecDepth 100000 in
theorem d_S_set_32 : Dc m_S_set 32 (.istore_n 3) 1 33 := ⟨by decide +kernel, rfl⟩
set_option maxRecDepth 100000 in
theorem d_S_set_33 : Dc m_S_set 33 (.aload_n 0) 1 34 := ⟨by decide +kernel, rfl⟩
set_option maxRecDepth 100000 in
theorem d_S_set_34 : Dc m_S_set 34 (.getfield 12) 3 37 := ⟨by decide +kernel, rfl⟩
set_option maxRecDepth 100000 in
theorem d_S_set_37 : Dc m_S_set 37 (.getfield 184) 3 40 := ⟨by decide +kernel, rfl⟩
set_option maxRecDepth 100000 in
theorem d_S_set_40 : Dc m_S_set 40 (.iload_n 1) 1 41 := ⟨by decide +kernel, rfl⟩
set_option maxRecDepth 100000 in
theorem d_S_set_41 : Dc m_S_set 41 (.iload_n 2) 1 42 := ⟨by decide +kernel, rfl⟩
set_option maxRecDepth 100000 in
theorem d_S_set_42 : Dc m_S_set 42 .iastore 1 43 := ⟨by decide +kernel, rfl⟩
set_option maxRecDepth 100000 in
theorem d_S_set_43 : Dc m_S_set 43 (.iload_n 3) 1 44 := ⟨by decide +kernel, rfl⟩
set_option maxRecDepth 100000 in
theorem d_S_set_44 : Dc m_S_set 44 .ireturn 1 45 := ⟨by decide +kernel, rfl⟩
set_option maxRecDepth 100000 in
theorem d_S_day_0 : Dc m_S_day 0 (.aload_n 0) 1 1 := ⟨by decide +kernel, rfl⟩
set_option maxRecDepth 100000 in
theorem d_S_day_1 : Dc m_S_day 1 (.getfield 12) 3 4 := ⟨by decide +kernel, rfl⟩
set_option maxRecDepth 100000 in
theorem d_S_day_4 : Dc m_S_day 4 (.getfield 187) 3 7 := ⟨by decide +kernel, rfl⟩
set_option maxRecDepth 100000 in
theorem d_S_day_7 : Dc m_S_day 7 .ireturn 1 8 := ⟨by decide +kernel, rfl⟩
set_option maxRecDepth 100000 in
theorem d_S_feel_0 : Dc m_S_feel 0 (.aload_n 0) 1 1 := ⟨by decide +kernel, rfl⟩
set_option maxRecDepth 100000 in
theorem d_S_feel_1 : Dc m_S_feel 1 (.getfield 12) 3 4 := ⟨by decide +kernel, rfl⟩
set_option maxRecDepth 100000 in
theorem d_S_feel_4 : Dc m_S_feel 4 (.iload_n 1) 1 5 := ⟨by decide +kernel, rfl⟩
set_option maxRecDepth 100000 in
theorem d_S_feel_5 : Dc m_S_feel 5 (.invokevirtual 127) 3 8 := ⟨by decide +kernel, rfl⟩
set_option maxRecDepth 100000 in
theorem d_S_feel_8 : Dc m_S_feel 8 (.astore 4) 2 10 := ⟨by decide +kernel, rfl⟩
set_option maxRecDepth 100000 in
theorem d_S_feel_10 : Dc m_S_feel 10 (.aload 4) 2 12 := ⟨by decide +kernel, rfl⟩
set_option maxRecDepth 100000 in
theorem d_S_feel_12 : Dj m_S_feel 12 .ifnull 15 29 := ⟨17, by decide +kernel, rfl, by decide⟩
set_option maxRecDepth 100000 in
theorem d_S_feel_15 : Dc m_S_feel 15 (.iload_n 2) 1 16 := ⟨by decide +kernel, rfl⟩
set_option maxRecDepth 100000 in
theorem d_S_feel_16 : Dc m_S_feel 16 (.invokestatic 144) 3 19 := ⟨by decide +kernel, rfl⟩
set_option maxRecDepth 100000 in
theorem d_S_feel_19 : Dj m_S_feel 19 (.ifCond .eq) 22 29 := ⟨10, by decide +kernel, rfl, by decide⟩
set_option maxRecDepth 100000 in
theorem d_S_feel_22 : Dc m_S_feel 22 (.iload_n 3) 1 23 := ⟨by decide +kernel, rfl⟩
set_option maxRecDepth 100000 in
theorem d_S_feel_23 : Dc m_S_feel 23 (.invokestatic 190) 3 26 := ⟨by decide +kernel, rfl⟩
set_option maxRecDepth 100000 in
theorem d_S_feel_26 : Dj m_S_feel 26 (.ifCond .ne) 29 31 := ⟨5, by decide +kernel, rfl, by decide⟩
set_option maxRecDepth 100000 in
theorem d_S_feel_29 : Dc m_S_feel 29 (.iconst (-1)) 1 30 := ⟨by decide +kernel, rfl⟩
set_option maxRecDepth 100000 in
theorem d_S_feel_30 : Dc m_S_feel 30 .ireturn 1 31 := ⟨by decide +kernel, rfl⟩
set_option maxRecDepth 100000 in
theorem d_S_feel_31 : Dc m_S_feel 31 (.aload 4) 2 33 := ⟨by decide +kernel, rfl⟩
set_option maxRecDepth 100000 in
theorem d_S_feel_33 : Dc m_S_feel 33 (.iload_n 2) 1 34 := ⟨by decide +kernel, rfl⟩
set_option maxRecDepth 100000 in
theorem d_S_feel_34 : Dc m_S_feel 34 (.iload_n 3) 1 35 := ⟨by decide +kernel, rfl⟩
set_option maxRecDepth 100000 in
theorem d_S_feel_35 : Dc m_S_feel 35 (.invokevirtual 193) 3 38 := ⟨by decide +kernel, rfl⟩
set_option maxRecDepth 100000 in
theorem d_S_feel_38 : Dc m_S_feel 38 .ireturn 1 39 := ⟨by decide +kernel, rfl⟩
set_option maxRecDepth 100000 in
theorem d_S_would_0 : Dc m_S_would 0 (.aload_n 0) 1 1 := ⟨by decide +kernel, rfl⟩
set_option maxRecDepth 100000 in
theorem d_S_would_1 : Dc m_S_would 1 (.getfield 12) 3 4 := ⟨by decide +kernel, rfl⟩
set_option maxRecDepth 100000 in
theorem d_S_would_4 : Dc m_S_would 4 (.iload_n 1) 1 5 := ⟨by decide +kernel, rfl⟩
set_option maxRecDepth 100000 in
theorem d_S_would_5 : Dc m_S_would 5 (.invokevirtual 127) 3 8 := ⟨by decide +kernel, rfl⟩
set_option maxRecDepth 100000 in
theorem d_S_would_8 : Dc m_S_would 8 (.astore 5) 2 10 := ⟨by decide +kernel, rfl⟩
set_option maxRecDepth 100000 in
theorem d_S_would_10 : Dc m_S_would 10 (.aload 5) 2 12 := ⟨by decide +kernel, rfl⟩
set_option maxRecDepth 100000 in
theorem d_S_would_12 : Dj m_S_would 12 .ifnull 15 38 := ⟨26, by decide +kernel, rfl, by decide⟩
set_option maxRecDepth 100000 in
theorem d_S_would_15 : Dc m_S_would 15 (.iload_n 2) 1 16 := ⟨by decide +kernel, rfl⟩
set_option maxRecDepth 100000 in
theorem d_S_would_16 : Dc m_S_would 16 (.invokestatic 144) 3 19 := ⟨by decide +kernel, rfl⟩
set_option maxRecDepth 100000 in
theorem d_S_would_19 : Dj m_S_would 19 (.ifCond .eq) 22 38 := ⟨19, by decide +kernel, rfl, by decide⟩
set_option maxRecDepth 100000 in
theorem d_S_would_22 : Dc m_S_would 22 (.iload_n 3) 1 23 := ⟨by decide +kernel, rfl⟩
set_option maxRecDepth 100000 in
theorem d_S_would_23 : Dc m_S_would 23 (.invokestatic 190) 3 26 := ⟨by decide +kernel, rfl⟩
set_option maxRecDepth 100000 in
theorem d_S_would_26 : Dj m_S_would 26 (.ifCond .eq) 29 38 := ⟨12, by decide +kernel, rfl, by decide⟩
set_option maxRecDepth 100000 in
theorem d_S_would_29 : Dc m_S_would 29 (.iload 4) 2 31 := ⟨by decide +kernel, rfl⟩
set_option maxRecDepth 100000 in
theorem d_S_would_31 : Dc m_S_would 31 (.iconst 3) 1 32 := ⟨by decide +kernel, rfl⟩
set_option maxRecDepth 100000 in
theorem d_S_would_32 : Dc m_S_would 32 (.invokestatic 118) 3 35 := ⟨by decide +kernel, rfl⟩
set_option maxRecDepth 100000 in
theorem d_S_would_35 : Dj m_S_would 35 (.ifCond .ne) 38 40 := ⟨5, by decide +kernel, rfl, by decide⟩
set_option maxRecDepth 100000 in
theorem d_S_would_38 : Dc m_S_would 38 (.iconst (-1)) 1 39 := ⟨by decide +kernel, rfl⟩
set_option maxRecDepth 100000 in
theorem d_S_would_39 : Dc m_S_would 39 .ireturn 1 40 := ⟨by decide +kernel, rfl⟩
set_option maxRecDepth 100000 in
theorem d_S_would_40 : Dc m_S_would 40 (.aload_n 0) 1 41 := ⟨by decide +kernel, rfl⟩
set_option maxRecDepth 100000 in
theorem d_S_would_41 : Dc m_S_would 41 (.getfield 47) 3 44 := ⟨by decide +kernel, rfl⟩
set_option maxRecDepth 100000 in
theorem d_S_would_44 : Dc m_S_would 44 (.aload 5) 2 46 := ⟨by decide +kernel, rfl⟩
set_option maxRecDepth 100000 in
theorem d_S_would_46 : Dc m_S_would 46 (.iload_n 2) 1 47 := ⟨by decide +kernel, rfl⟩
set_option maxRecDepth 100000 in
theorem d_S_would_47 : Dc m_S_would 47 (.iload_n 3) 1 48 := ⟨by decide +kernel, rfl⟩
set_option maxRecDepth 100000 in
theorem d_S_would_48 : Dc m_S_would 48 (.aload_n 0) 1 49 := ⟨by decide +kernel, rfl⟩
set_option maxRecDepth 100000 in
theorem d_S_would_49 : Dc m_S_would 49 (.getfield 12) 3 52 := ⟨by decide +kernel, rfl⟩
set_option maxRecDepth 100000 in
theorem d_S_would_52 : Dc m_S_would 52 (.getfield 184) 3 55 := ⟨by decide +kernel, rfl⟩
set_option maxRecDepth 100000 in
theorem d_S_would_55 : Dc m_S_would 55 (.invokevirtual 196) 3 58 := ⟨by decide +kernel, rfl⟩
set_option maxRecDepth 100000 in
theorem d_S_would_58 : Dc m_S_would 58 (.iload 4) 2 60 := ⟨by decide +kernel, rfl⟩
set_option maxRecDepth 100000 in
theorem d_S_would_60 : Ts m_S_would 60 [(0, 88), (1, 96), (2, 104)] 112 := ⟨52, 0, 2, [28, 36, 44], 28, by decide +kernel, by decide, by decide +kernel⟩
set_option maxRecDepth 100000 in
theorem d_S_would_88 : Dc m_S_would 88 (.aload_n 0) 1 89 := ⟨by decide +kernel, rfl⟩
set_option maxRecDepth 100000 in
theorem d_S_would_89 : Dc m_S_would 89 (.getfield 47) 3 92 := ⟨by decide +kernel, rfl⟩
set_option maxRecDepth 100000 in
theorem d_S_would_92 : Dc m_S_would 92 (.getfield 200) 3 95 := ⟨by decide +kernel, rfl⟩
set_option maxRecDepth 100000 in
theorem d_S_would_95 : Dc m_S_would 95 .ireturn 1 96 := ⟨by decide +kernel, rfl⟩
set_option maxRecDepth 100000 in
theorem d_S_would_96 : Dc m_S_would 96 (.aload_n 0) 1 97 := ⟨by decide +kernel, rfl⟩
set_option maxRecDepth 100000 in
theorem d_S_would_97 : Dc m_S_would 97 (.getfield 47) 3 100 := ⟨by decide +kernel, rfl⟩
set_option maxRecDepth 100000 in
theorem d_S_would_100 : Dc m_S_would 100 (.getfield 203) 3 103 := ⟨by decide +kernel, rfl⟩
set_option maxRecDepth 100000 in
theorem d_S_would_103 : Dc m_S_would 103 .ireturn 1 104 := ⟨by decide +kernel, rfl⟩
set_option maxRecDepth 100000 in
theorem d_S_would_104 : Dc m_S_would 104 (.aload_n 0) 1 105 := ⟨by decide +kernel, rfl⟩
set_option maxRecDepth 100000 in
theorem d_S_would_105 : Dc m_S_would 105 (.getfield 47) 3 108 := ⟨by decide +kernel, rfl⟩
set_option maxRecDepth 100000 in
theorem d_S_would_108 : Dc m_S_would 108 (.getfield 206) 3 111 := ⟨by decide +kernel, rfl⟩
set_option maxRecDepth 100000 in
theorem d_S_would_111 : Dc m_S_would 111 .ireturn 1 112 := ⟨by decide +kernel, rfl⟩
set_option maxRecDepth 100000 in
theorem d_S_would_112 : Dc m_S_would 112 (.aload_n 0) 1 113 := ⟨by decide +kernel, rfl⟩
set_option maxRecDepth 100000 in
theorem d_S_would_113 : Dc m_S_would 113 (.getfield 47) 3 116 := ⟨by decide +kernel, rfl⟩
set_option maxRecDepth 100000 in
theorem d_S_would_116 : Dc m_S_would 116 (.getfield 209) 3 119 := ⟨by decide +kernel, rfl⟩
set_option maxRecDepth 100000 in
theorem d_S_would_119 : Dc m_S_would 119 .ireturn 1 120 := ⟨by decide +kernel, rfl⟩
set_option maxRecDepth 100000 in
theorem d_S_ask_0 : Dc m_S_ask 0 (.aload_n 0) 1 1 := ⟨by decide +kernel, rfl⟩
set_option maxRecDepth 100000 in
theorem d_S_ask_1 : Dc m_S_ask 1 (.getfield 12) 3 4 := ⟨by decide +kernel, rfl⟩
set_option maxRecDepth 100000 in
theorem d_S_ask_4 : Dc m_S_ask 4 (.iload_n 1) 1 5 := ⟨by decide +kernel, rfl⟩
set_option maxRecDepth 100000 in
theorem d_S_ask_5 : Dc m_S_ask 5 (.invokevirtual 127) 3 8 := ⟨by decide +kernel, rfl⟩
set_option maxRecDepth 100000 in
theorem d_S_ask_8 : Dc m_S_ask 8 (.astore 4) 2 10 := ⟨by decide +kernel, rfl⟩
set_option maxRecDepth 100000 in
theorem d_S_ask_10 : Dc m_S_ask 10 (.aload 4) 2 12 := ⟨by decide +kernel, rfl⟩
set_option maxRecDepth 100000 in
theorem d_S_ask_12 : Dj m_S_ask 12 .ifnull 15 29 := ⟨17, by decide +kernel, rfl, by decide⟩
set_option maxRecDepth 100000 in
theorem d_S_ask_15 : Dc m_S_ask 15 (.iload_n 2) 1 16 := ⟨by decide +kernel, rfl⟩
set_option maxRecDepth 100000 in
theorem d_S_ask_16 : Dc m_S_ask 16 (.invokestatic 144) 3 19 := ⟨by decide +kernel, rfl⟩
set_option maxRecDepth 100000 in
theorem d_S_ask_19 : Dj m_S_ask 19 (.ifCond .eq) 22 29 := ⟨10, by decide +kernel, rfl, by decide⟩
set_option maxRecDepth 100000 in
theorem d_S_ask_22 : Dc m_S_ask 22 (.iload_n 3) 1 23 := ⟨by decide +kernel, rfl⟩
set_option maxRecDepth 100000 in
theorem d_S_ask_23 : Dc m_S_ask 23 (.invokestatic 190) 3 26 := ⟨by decide +kernel, rfl⟩
set_option maxRecDepth 100000 in
theorem d_S_ask_26 : Dj m_S_ask 26 (.ifCond .ne) 29 31 := ⟨5, by decide +kernel, rfl, by decide⟩
set_option maxRecDepth 100000 in
theorem d_S_ask_29 : Dc m_S_ask 29 (.iconst (-1)) 1 30 := ⟨by decide +kernel, rfl⟩
set_option maxRecDepth 100000 in
theorem d_S_ask_30 : Dc m_S_ask 30 .ireturn 1 31 := ⟨by decide +kernel, rfl⟩
set_option maxRecDepth 100000 in
theorem d_S_ask_31 : Dc m_S_ask 31 (.aload_n 0) 1 32 := ⟨by decide +kernel, rfl⟩
set_option maxRecDepth 100000 in
theorem d_S_ask_32 : Dc m_S_ask 32 (.getfield 47) 3 35 := ⟨by decide +kernel, rfl⟩
set_option maxRecDepth 100000 in
theorem d_S_ask_35 : Dc m_S_ask 35 (.aload 4) 2 37 := ⟨by decide +kernel, rfl⟩
set_option maxRecDepth 100000 in
theorem d_S_ask_37 : Dc m_S_ask 37 (.iload_n 2) 1 38 := ⟨by decide +kernel, rfl⟩
set_option maxRecDepth 100000 in
theorem d_S_ask_38 : Dc m_S_ask 38 (.iload_n 3) 1 39 := ⟨by decide +kernel, rfl⟩
set_option maxRecDepth 100000 in
theorem d_S_ask_39 : Dc m_S_ask 39 (.aload_n 0) 1 40 := ⟨by decide +kernel, rfl⟩
set_option maxRecDepth 100000 in
theorem d_S_ask_40 : Dc m_S_ask 40 (.getfield 12) 3 43 := ⟨by decide +kernel, rfl⟩
set_option maxRecDepth 100000 in
theorem d_S_ask_43 : Dc m_S_ask 43 (.getfield 184) 3 46 := ⟨by decide +kernel, rfl⟩
set_option maxRecDepth 100000 in
theorem d_S_ask_46 : Dc m_S_ask 46 (.invokevirtual 196) 3 49 := ⟨by decide +kernel, rfl⟩
set_option maxRecDepth 100000 in
theorem d_S_ask_49 : Dc m_S_ask 49 (.aload 4) 2 51 := ⟨by decide +kernel, rfl⟩
set_option maxRecDepth 100000 in
theorem d_S_ask_51 : Dc m_S_ask 51 (.aload_n 0) 1 52 := ⟨by decide +kernel, rfl⟩
set_option maxRecDepth 100000 in
theorem d_S_ask_52 : Dc m_S_ask 52 (.getfield 47) 3 55 := ⟨by decide +kernel, rfl⟩
set_option maxRecDepth 100000 in
theorem d_S_ask_55 : Dc m_S_ask 55 (.iload_n 2) 1 56 := ⟨by decide +kernel, rfl⟩
set_option maxRecDepth 100000 in
theorem d_S_ask_56 : Dc m_S_ask 56 (.aload_n 0) 1 57 := ⟨by decide +kernel, rfl⟩
set_option maxRecDepth 100000 in
theorem d_S_ask_57 : Dc m_S_ask 57 (.getfield 12) 3 60 := ⟨by decide +kernel, rfl⟩
set_option maxRecDepth 100000 in
theorem d_S_ask_60 : Dc m_S_ask 60 (.getfield 187) 3 63 := ⟨by decide +kernel, rfl⟩
set_option maxRecDepth 100000 in
theorem d_S_ask_63 : Dc m_S_ask 63 (.invokevirtual 212) 3 66 := ⟨by decide +kernel, rfl⟩
set_option maxRecDepth 100000 in
theorem d_S_ask_66 : Dc m_S_ask 66 (.aload_n 0) 1 67 := ⟨by decide +kernel, rfl⟩
set_option maxRecDepth 100000 in
theorem d_S_ask_67 : Dc m_S_ask 67 (.getfield 47) 3 70 := ⟨by decide +kernel, rfl⟩
set_option maxRecDepth 100000 in
theorem d_S_ask_70 : Dc m_S_ask 70 (.getfield 200) 3 73 := ⟨by decide +kernel, rfl⟩
set_option maxRecDepth 100000 in
theorem d_S_ask_73 : Dc m_S_ask 73 .ireturn 1 74 := ⟨by decide +kernel, rfl⟩
set_option maxRecDepth 100000 in
theorem d_S_tell_0 : Dc m_S_tell 0 (.aload_n 0) 1 1 := ⟨by decide +kernel, rfl⟩
set_option maxRecDepth 100000 in
theorem d_S_tell_1 : Dc m_S_tell 1 (.getfield 12) 3 4 := ⟨by decide +kernel, rfl⟩
set_option maxRecDepth 100000 in
theorem d_S_tell_4 : Dc m_S_tell 4 (.iload_n 1) 1 5 := ⟨by decide +kernel, rfl⟩
set_option maxRecDepth 100000 in
theorem d_S_tell_5 : Dc m_S_tell 5 (.invokevirtual 127) 3 8 := ⟨by decide +kernel, rfl⟩
set_option maxRecDepth 100000 in
theorem d_S_tell_8 : Dc m_S_tell 8 (.astore_n 3) 1 9 := ⟨by decide +kernel, rfl⟩
set_option maxRecDepth 100000 in
theorem d_S_tell_9 : Dc m_S_tell 9 (.aload_n 3) 1 10 := ⟨by decide +kernel, rfl⟩
set_option maxRecDepth 100000 in
theorem d_S_tell_10 : Dj m_S_tell 10 .ifnull 13 20 := ⟨10, by decide +kernel, rfl, by decide⟩
set_option maxRecDepth 100000 in
theorem d_S_tell_13 : Dc m_S_tell 13 (.iload_n 2) 1 14 := ⟨by decide +kernel, rfl⟩
set_option maxRecDepth 100000 in
theorem d_S_tell_14 : Dc m_S_tell 14 (.invokestatic 144) 3 17 := ⟨by decide +kernel, rfl⟩
set_option maxRecDepth 100000 in
theorem d_S_tell_17 : Dj m_S_tell 17 (.ifCond .ne) 20 22 := ⟨5, by decide +kernel, rfl, by decide⟩
set_option maxRecDepth 100000 in
theorem d_S_tell_20 : Dc m_S_tell 20 (.iconst (-1)) 1 21 := ⟨by decide +kernel, rfl⟩
set_option maxRecDepth 100000 in
theorem d_S_tell_21 : Dc m_S_tell 21 .ireturn 1 22 := ⟨by decide +kernel, rfl⟩
set_option maxRecDepth 100000 in
theorem d_S_tell_22 : Dc m_S_tell 22 (.aload_n 3) 1 23 := ⟨by decide +kernel, rfl⟩
set_option maxRecDepth 100000 in
theorem d_S_tell_23 : Dc m_S_tell 23 (.iload_n 2) 1 24 := ⟨by decide +kernel, rfl⟩
set_option maxRecDepth 100000 in
theorem d_S_tell_24 : Dc m_S_tell 24 (.invokevirtual 216) 3 27 := ⟨by decide +kernel, rfl⟩
set_option maxRecDepth 100000 in
theorem d_S_tell_27 : Dc m_S_tell 27 (.aload_n 3) 1 28 := ⟨by decide +kernel, rfl⟩
set_option maxRecDepth 100000 in
theorem d_S_tell_28 : Dc m_S_tell 28 (.getfield 166) 3 31 := ⟨by decide +kernel, rfl⟩
set_option maxRecDepth 100000 in
theorem d_S_tell_31 : Dc m_S_tell 31 (.iload_n 2) 1 32 := ⟨by decide +kernel, rfl⟩
set_option maxRecDepth 100000 in
theorem d_S_tell_32 : Dc m_S_tell 32 .iaload 1 33 := ⟨by decide +kernel, rfl⟩
set_option maxRecDepth 100000 in
theorem d_S_tell_33 : Dc m_S_tell 33 .ireturn 1 34 := ⟨by decide +kernel, rfl⟩
set_option maxRecDepth 100000 in
theorem d_S_nights_0 : Dc m_S_nights 0 (.iload_n 1) 1 1 := ⟨by decide +kernel, rfl⟩
set_option maxRecDepth 100000 in
theorem d_S_nights_1 : Dc m_S_nights 1 (.bipush (30)) 2 3 := ⟨by decide +kernel, rfl⟩
set_option maxRecDepth 100000 in
theorem d_S_nights_3 : Dc m_S_nights 3 (.invokestatic 118) 3 6 := ⟨by decide +kernel, rfl⟩
set_option maxRecDepth 100000 in
theorem d_S_nights_6 : Dj m_S_nights 6 (.ifCond .ne) 9 11 := ⟨5, by decide +kernel, rfl, by decide⟩
set_option maxRecDepth 100000 in
theorem d_S_nights_9 : Dc m_S_nights 9 (.iconst (-1)) 1 10 := ⟨by decide +kernel, rfl⟩
set_option maxRecDepth 100000 in
theorem d_S_nights_10 : Dc m_S_nights 10 .ireturn 1 11 := ⟨by decide +kernel, rfl⟩
set_option maxRecDepth 100000 in
theorem d_S_nights_11 : Dc m_S_nights 11 (.aload_n 0) 1 12 := ⟨by decide +kernel, rfl⟩
set_option maxRecDepth 100000 in
theorem d_S_nights_12 : Dc m_S_nights 12 (.getfield 12) 3 15 := ⟨by decide +kernel, rfl⟩
set_option maxRecDepth 100000 in
theorem d_S_nights_15 : Dc m_S_nights 15 (.iload_n 1) 1 16 := ⟨by decide +kernel, rfl⟩
set_option maxRecDepth 100000 in
theorem d_S_nights_16 : Dc m_S_nights 16 (.invokevirtual 220) 3 19 := ⟨by decide +kernel, rfl⟩
set_option maxRecDepth 100000 in
theorem d_S_nights_19 : Dc m_S_nights 19 (.aload_n 0) 1 20 := ⟨by decide +kernel, rfl⟩
set_option maxRecDepth 100000 in
theorem d_S_nights_20 : Dc m_S_nights 20 (.getfield 12) 3 23 := ⟨by decide +kernel, rfl⟩
set_option maxRecDepth 100000 in
theorem d_S_nights_23 : Dc m_S_nights 23 (.getfield 187) 3 26 := ⟨by decide +kernel, rfl⟩
set_option maxRecDepth 100000 in
theorem d_S_nights_26 : Dc m_S_nights 26 .ireturn 1 27 := ⟨by decide +kernel, rfl⟩
set_option maxRecDepth 100000 in
theorem d_S_card_0 : Dc m_S_card 0 (.aload_n 0) 1 1 := ⟨by decide +kernel, rfl⟩
set_option maxRecDepth 100000 in
theorem d_S_card_1 : Dc m_S_card 1 (.getfield 12) 3 4 := ⟨by decide +kernel, rfl⟩
set_option maxRecDepth 100000 in
theorem d_S_card_4 : Dc m_S_card 4 (.iload_n 1) 1 5 := ⟨by decide +kernel, rfl⟩
set_option maxRecDepth 100000 in
theorem d_S_card_5 : Dc m_S_card 5 (.invokevirtual 127) 3 8 := ⟨by decide +kernel, rfl⟩
set_option maxRecDepth 100000 in
theorem d_S_card_8 : Dc m_S_card 8 (.astore_n 2) 1 9 := ⟨by decide +kernel, rfl⟩
set_option maxRecDepth 100000 in
theorem d_S_card_9 : Dc m_S_card 9 (.aload_n 2) 1 10 := ⟨by decide +kernel, rfl⟩
set_option maxRecDepth 100000 in
theorem d_S_card_10 : Dj m_S_card 10 .ifnonnull 13 15 := ⟨5, by decide +kernel, rfl, by decide⟩
set_option maxRecDepth 100000 in
theorem d_S_card_13 : Dc m_S_card 13 (.iconst (-1)) 1 14 := ⟨by decide +kernel, rfl⟩
set_option maxRecDepth 100000 in
theorem d_S_card_14 : Dc m_S_card 14 .ireturn 1 15 := ⟨by decide +kernel, rfl⟩
set_option maxRecDepth 100000 in
theorem d_S_card_15 : Dc m_S_card 15 (.iconst 0) 1 16 := ⟨by decide +kernel, rfl⟩
set_option maxRecDepth 100000 in
theorem d_S_card_16 : Dc m_S_card 16 (.istore_n 3) 1 17 := ⟨by decide +kernel, rfl⟩
set_option maxRecDepth 100000 in
theorem d_S_card_17 : Dc m_S_card 17 (.iconst 1) 1 18 := ⟨by decide +kernel, rfl⟩
set_option maxRecDepth 100000 in
theorem d_S_card_18 : Dc m_S_card 18 (.istore 4) 2 20 := ⟨by decide +kernel, rfl⟩
set_option maxRecDepth 100000 in
theorem d_S_card_20 : Dc m_S_card 20 (.iload 4) 2 22 := ⟨by decide +kernel, rfl⟩
set_option maxRecDepth 100000 in
theorem d_S_card_22 : Dc m_S_card 22 (.bipush (36)) 2 24 := ⟨by decide +kernel, rfl⟩
set_option maxRecDepth 100000 in
theorem d_S_card_24 : Dj m_S_card 24 (.if_icmp .ge) 27 50 := ⟨26, by decide +kernel, rfl, by decide⟩
set_option maxRecDepth 100000 in
theorem d_S_card_27 : Dc m_S_card 27 (.aload_n 2) 1 28 := ⟨by decide +kernel, rfl⟩
set_option maxRecDepth 100000 in
theorem d_S_card_28 : Dc m_S_card 28 (.iload 4) 2 30 := ⟨by decide +kernel, rfl⟩
set_option maxRecDepth 100000 in
theorem d_S_card_30 : Dc m_S_card 30 (.invokevirtual 178) 3 33 := ⟨by decide +kernel, rfl⟩
set_option maxRecDepth 100000 in
theorem d_S_card_33 : Dc m_S_card 33 (.aload_n 2) 1 34 := ⟨by decide +kernel, rfl⟩
set_option maxRecDepth 100000 in
theorem d_S_card_34 : Dc m_S_card 34 (.iload_n 3) 1 35 := ⟨by decide +kernel, rfl⟩
set_option maxRecDepth 100000 in
theorem d_S_card_35 : Dc m_S_card 35 (.invokevirtual 178) 3 38 := ⟨by decide +kernel, rfl⟩
set_option maxRecDepth 100000 in
theorem d_S_card_38 : Dj m_S_card 38 (.if_icmp .ge) 41 44 := ⟨6, by decide +kernel, rfl, by decide⟩
set_option maxRecDepth 100000 in
theorem d_S_card_41 : Dc m_S_card 41 (.iload 4) 2 43 := ⟨by decide +kernel, rfl⟩
set_option maxRecDepth 100000 in
theorem d_S_card_43 : Dc m_S_card 43 (.istore_n 3) 1 44 := ⟨by decide +kernel, rfl⟩
set_option maxRecDepth 100000 in
theorem d_S_card_44 : Dc m_S_card 44 (.iinc 4 (1)) 3 47 := ⟨by decide +kernel, rfl⟩
set_option maxRecDepth 100000 in
theorem d_S_card_47 : Dj m_S_card 47 .goto 50 20 := ⟨-27, by decide +kernel, rfl, by decide⟩
set_option maxRecDepth 100000 in
theorem d_S_card_50 : Dc m_S_card 50 (.aload_n 2) 1 51 := ⟨by decide +kernel, rfl⟩
set_option maxRecDepth 100000 in
theorem d_S_card_51 : Dc m_S_card 51 (.iload_n 3) 1 52 := ⟨by decide +kernel, rfl⟩
set_option maxRecDepth 100000 in
theorem d_S_card_52 : Dc m_S_card 52 (.invokevirtual 178) 3 55 := ⟨by decide +kernel, rfl⟩
set_option maxRecDepth 100000 in
theorem d_S_card_55 : Dc m_S_card 55 (.aload_n 0) 1 56 := ⟨by decide +kernel, rfl⟩
set_option maxRecDepth 100000 in
theorem d_S_card_56 : Dc m_S_card 56 (.getfield 12) 3 59 := ⟨by decide +kernel, rfl⟩
set_option maxRecDepth 100000 in
theorem d_S_card_59 : Dc m_S_card 59 (.getfield 187) 3 62 := ⟨by decide +kernel, rfl⟩
set_option maxRecDepth 100000 in
theorem d_S_card_62 : Dj m_S_card 62 (.if_icmp .le) 65 70 := ⟨8, by decide +kernel, rfl, by decide⟩
set_option maxRecDepth 100000 in
theorem d_S_card_65 : Dc m_S_card 65 (.bipush (-3)) 2 67 := ⟨by decide +kernel, rfl⟩
set_option maxRecDepth 100000 in
theorem d_S_card_67 : Dj m_S_card 67 .goto 70 71 := ⟨4, by decide +kernel, rfl, by decide⟩
set_option maxRecDepth 100000 in
theorem d_S_card_70 : Dc m_S_card 70 (.iload_n 3) 1 71 := ⟨by decide +kernel, rfl⟩
set_option maxRecDepth 100000 in
theorem d_S_card_71 : Dc m_S_card 71 .ireturn 1 72 := ⟨by decide +kernel, rfl⟩
set_option maxRecDepth 100000 in
theorem d_S_known_0 : Dc m_S_known 0 (.aload_n 0) 1 1 := ⟨by decide +kernel, rfl⟩
set_option maxRecDepth 100000 in
theorem d_S_known_1 : Dc m_S_known 1 (.getfield 12) 3 4 := ⟨by decide +kernel, rfl⟩
set_option maxRecDepth 100000 in
theorem d_S_known_4 : Dc m_S_known 4 (.iload_n 1) 1 5 := ⟨by decide +kernel, rfl⟩
set_option maxRecDepth 100000 in
theorem d_S_known_5 : Dc m_S_known 5 (.invokevirtual 127) 3 8 := ⟨by decide +kernel, rfl⟩
set_option maxRecDepth 100000 in
theorem d_S_known_8 : Dc m_S_known 8 (.astore_n 3) 1 9 := ⟨by decide +kernel, rfl⟩
set_option maxRecDepth 100000 in
theorem d_S_known_9 : Dc m_S_known 9 (.aload_n 3) 1 10 := ⟨by decide +kernel, rfl⟩
set_option maxRecDepth 100000 in
theorem d_S_known_10 : Dj m_S_known 10 .ifnull 13 20 := ⟨10, by decide +kernel, rfl, by decide⟩
set_option maxRecDepth 100000 in
theorem d_S_known_13 : Dc m_S_known 13 (.iload_n 2) 1 14 := ⟨by decide +kernel, rfl⟩
set_option maxRecDepth 100000 in
theorem d_S_known_14 : Dc m_S_known 14 (.invokestatic 190) 3 17 := ⟨by decide +kernel, rfl⟩
set_option maxRecDepth 100000 in
theorem d_S_known_17 : Dj m_S_known 17 (.ifCond .ne) 20 24 := ⟨7, by decide +kernel, rfl, by decide⟩
set_option maxRecDepth 100000 in
theorem d_S_known_20 : Dc m_S_known 20 (.ldc2_w 161) 3 23 := ⟨by decide +kernel, rfl⟩
set_option maxRecDepth 100000 in
theorem d_S_known_23 : Dc m_S_known 23 .lreturn 1 24 := ⟨by decide +kernel, rfl⟩
set_option maxRecDepth 100000 in
theorem d_S_known_24 : Dc m_S_known 24 (.aload_n 0) 1 25 := ⟨by decide +kernel, rfl⟩
set_option maxRecDepth 100000 in
theorem d_S_known_25 : Dc m_S_known 25 (.aload_n 3) 1 26 := ⟨by decide +kernel, rfl⟩
set_option maxRecDepth 100000 in
theorem d_S_known_26 : Dc m_S_known 26 (.iload_n 2) 1 27 := ⟨by decide +kernel, rfl⟩
set_option maxRecDepth 100000 in
theorem d_S_known_27 : Dc m_S_known 27 (.invokevirtual 223) 3 30 := ⟨by decide +kernel, rfl⟩
set_option maxRecDepth 100000 in
theorem d_S_known_30 : Dc m_S_known 30 .lreturn 1 31 := ⟨by decide +kernel, rfl⟩
set_option maxRecDepth 100000 in
theorem d_S_friday_0 : Dc m_S_friday 0 (.aload_n 0) 1 1 := ⟨by decide +kernel, rfl⟩
set_option maxRecDepth 100000 in
theorem d_S_friday_1 : Dc m_S_friday 1 (.getfield 12) 3 4 := ⟨by decide +kernel, rfl⟩
set_option maxRecDepth 100000 in
theorem d_S_friday_4 : Dc m_S_friday 4 (.iload_n 1) 1 5 := ⟨by decide +kernel, rfl⟩
set_option maxRecDepth 100000 in
theorem d_S_friday_5 : Dc m_S_friday 5 (.invokevirtual 127) 3 8 := ⟨by decide +kernel, rfl⟩
set_option maxRecDepth 100000 in
theorem d_S_friday_8 : Dc m_S_friday 8 (.astore 4) 2 10 := ⟨by decide +kernel, rfl⟩
set_option maxRecDepth 100000 in
theorem d_S_friday_10 : Dc m_S_friday 10 (.aload 4) 2 12 := ⟨by decide +kernel, rfl⟩
set_option maxRecDepth 100000 in
theorem d_S_friday_12 : Dj m_S_friday 12 .ifnull 15 31 := ⟨19, by decide +kernel, rfl, by decide⟩
set_option maxRecDepth 100000 in
theorem d_S_friday_15 : Dc m_S_friday 15 (.iload_n 2) 1 16 := ⟨by decide +kernel, rfl⟩
set_option maxRecDepth 100000 in
theorem d_S_friday_16 : Dc m_S_friday 16 (.bipush (30)) 2 18 := ⟨by decide +kernel, rfl⟩
set_option maxRecDepth 100000 in
theorem d_S_friday_18 : Dc m_S_friday 18 (.invokestatic 118) 3 21 := ⟨by decide +kernel, rfl⟩
set_option maxRecDepth 100000 in
theorem d_S_friday_21 : Dj m_S_friday 21 (.ifCond .eq) 24 31 := ⟨10, by decide +kernel, rfl, by decide⟩
set_option maxRecDepth 100000 in
theorem d_S_friday_24 : Dc m_S_friday 24 (.iload_n 3) 1 25 := ⟨by decide +kernel, rfl⟩
set_option maxRecDepth 100000 in
theorem d_S_friday_25 : Dc m_S_friday 25 (.invokestatic 190) 3 28 := ⟨by decide +kernel, rfl⟩
set_option maxRecDepth 100000 in
theorem d_S_friday_28 : Dj m_S_friday 28 (.ifCond .ne) 31 35 := ⟨7, by decide +kernel, rfl, by decide⟩
set_option maxRecDepth 100000 in
theorem d_S_friday_31 : Dc m_S_friday 31 (.ldc2_w 161) 3 34 := ⟨by decide +kernel, rfl⟩
set_option maxRecDepth 100000 in
theorem d_S_friday_34 : Dc m_S_friday 34 .lreturn 1 35 := ⟨by decide +kernel, rfl⟩
set_option maxRecDepth 100000 in
theorem d_S_friday_35 : Dc m_S_friday 35 (.aload_n 0) 1 36 := ⟨by decide +kernel, rfl⟩
set_option maxRecDepth 100000 in
theorem d_S_friday_36 : Dc m_S_friday 36 (.getfield 40) 3 39 := ⟨by decide +kernel, rfl⟩
set_option maxRecDepth 100000 in
theorem d_S_friday_39 : Dc m_S_friday 39 (.aload 4) 2 41 := ⟨by decide +kernel, rfl⟩
set_option maxRecDepth 100000 in
theorem d_S_friday_41 : Dc m_S_friday 41 (.invokevirtual 227) 3 44 := ⟨by decide +kernel, rfl⟩
set_option maxRecDepth 100000 in
theorem d_S_friday_44 : Dc m_S_friday 44 (.aload_n 0) 1 45 := ⟨by decide +kernel, rfl⟩
set_option maxRecDepth 100000 in
theorem d_S_friday_45 : Dc m_S_friday 45 (.getfield 40) 3 48 := ⟨by decide +kernel, rfl⟩
set_option maxRecDepth 100000 in
theorem d_S_friday_48 : Dc m_S_friday 48 (.iload_n 2) 1 49 := ⟨by decide +kernel, rfl⟩
set_option maxRecDepth 100000 in
theorem d_S_friday_49 : Dc m_S_friday 49 (.aload_n 0) 1 50 := ⟨by decide +kernel, rfl⟩
set_option maxRecDepth 100000 in
theorem d_S_friday_50 : Dc m_S_friday 50 (.getfield 12) 3 53 := ⟨by decide +kernel, rfl⟩
set_option maxRecDepth 100000 in
theorem d_S_friday_53 : Dc m_S_friday 53 (.getfield 184) 3 56 := ⟨by decide +kernel, rfl⟩
set_option maxRecDepth 100000 in
theorem d_S_friday_56 : Dc m_S_friday 56 (.iconst 0) 1 57 := ⟨by decide +kernel, rfl⟩
set_option maxRecDepth 100000 in
theorem d_S_friday_57 : Dc m_S_friday 57 .iaload 1 58 := ⟨by decide +kernel, rfl⟩
set_option maxRecDepth 100000 in
theorem d_S_friday_58 : Dc m_S_friday 58 (.invokevirtual 230) 3 61 := ⟨by decide +kernel, rfl⟩
set_option maxRecDepth 100000 in
theorem d_S_friday_61 : Dc m_S_friday 61 (.ldc2_w 234) 3 64 := ⟨by decide +kernel, rfl⟩
set_option maxRecDepth 100000 in
theorem d_S_friday_64 : Dc m_S_friday 64 (.aload_n 0) 1 65 := ⟨by decide +kernel, rfl⟩
set_option maxRecDepth 100000 in
theorem d_S_friday_65 : Dc m_S_friday 65 (.aload_n 0) 1 66 := ⟨by decide +kernel, rfl⟩
set_option maxRecDepth 100000 in
theorem d_S_friday_66 : Dc m_S_friday 66 (.getfield 40) 3 69 := ⟨by decide +kernel, rfl⟩
set_option maxRecDepth 100000 in
theorem d_S_friday_69 : Dc m_S_friday 69 (.iload_n 3) 1 70 := ⟨by decide +kernel, rfl⟩
set_option maxRecDepth 100000 in
theorem d_S_friday_70 : Dc m_S_friday 70 (.invokevirtual 223) 3 73 := ⟨by decide +kernel, rfl⟩
set_option maxRecDepth 100000 in
theorem d_S_friday_73 : Dc m_S_friday 73 (.ldc2_w 161) 3 76 := ⟨by decide +kernel, rfl⟩
set_option maxRecDepth 100000 in
theorem d_S_friday_76 : Dc m_S_friday 76 .lxor 1 77 := ⟨by decide +kernel, rfl⟩
set_option maxRecDepth 100000 in
theorem d_S_friday_77 : Dc m_S_friday 77 .land 1 78 := ⟨by decide +kernel, rfl⟩
set_option maxRecDepth 100000 in
theorem d_S_friday_78 : Dc m_S_friday 78 .lreturn 1 79 := ⟨by decide +kernel, rfl⟩
set_option maxRecDepth 100000 in
theorem d_S_odds_0 : Dc m_S_odds 0 (.iload_n 1) 1 1 := ⟨by decide +kernel, rfl⟩
set_option maxRecDepth 100000 in
theorem d_S_odds_1 : Dc m_S_odds 1 (.invokestatic 190) 3 4 := ⟨by decide +kernel, rfl⟩
set_option maxRecDepth 100000 in
theorem d_S_odds_4 : Dj m_S_odds 4 (.ifCond .eq) 7 15 := ⟨11, by decide +kernel, rfl, by decide⟩
set_option maxRecDepth 100000 in
theorem d_S_odds_7 : Dc m_S_odds 7 (.iload_n 2) 1 8 := ⟨by decide +kernel, rfl⟩
set_option maxRecDepth 100000 in
theorem d_S_odds_8 : Dc m_S_odds 8 (.iconst 1) 1 9 := ⟨by decide +kernel, rfl⟩
set_option maxRecDepth 100000 in
theorem d_S_odds_9 : Dc m_S_odds 9 (.invokestatic 118) 3 12 := ⟨by decide +kernel, rfl⟩
set_option maxRecDepth 100000 in
theorem d_S_odds_12 : Dj m_S_odds 12 (.ifCond .ne) 15 17 := ⟨5, by decide +kernel, rfl, by decide⟩
set_option maxRecDepth 100000 in
theorem d_S_odds_15 : Dc m_S_odds 15 (.iconst (-1)) 1 16 := ⟨by decide +kernel, rfl⟩
set_option maxRecDepth 100000 in
theorem d_S_odds_16 : Dc m_S_odds 16 .ireturn 1 17 := ⟨by decide +kernel, rfl⟩
set_option maxRecDepth 100000 in
theorem d_S_odds_17 : Dc m_S_odds 17 (.aload_n 0) 1 18 := ⟨by decide +kernel, rfl⟩
set_option maxRecDepth 100000 in
theorem d_S_odds_18 : Dc m_S_odds 18 (.getfield 12) 3 21 := ⟨by decide +kernel, rfl⟩
set_option maxRecDepth 100000 in
theorem d_S_odds_21 : Dc m_S_odds 21 (.getfield 122) 3 24 := ⟨by decide +kernel, rfl⟩
set_option maxRecDepth 100000 in
theorem d_S_odds_24 : Dj m_S_odds 24 (.ifCond .ne) 27 30 := ⟨6, by decide +kernel, rfl, by decide⟩
set_option maxRecDepth 100000 in
theorem d_S_odds_27 : Dc m_S_odds 27 (.bipush (-3)) 2 29 := ⟨by decide +kernel, rfl⟩
set_option maxRecDepth 100000 in
theorem d_S_odds_29 : Dc m_S_odds 29 .ireturn 1 30 := ⟨by decide +kernel, rfl⟩
set_option maxRecDepth 100000 in
theorem d_S_odds_30 : Dc m_S_odds 30 (.iconst 0) 1 31 := ⟨by decide +kernel, rfl⟩
set_option maxRecDepth 100000 in
theorem d_S_odds_31 : Dc m_S_odds 31 (.istore_n 3) 1 32 := ⟨by decide +kernel, rfl⟩
set_option maxRecDepth 100000 in
theorem d_S_odds_32 : Dc m_S_odds 32 (.iconst 0) 1 33 := ⟨by decide +kernel, rfl⟩
set_option maxRecDepth 100000 in
theorem d_S_odds_33 : Dc m_S_odds 33 (.istore 4) 2 35 := ⟨by decide +kernel, rfl⟩
set_option maxRecDepth 100000 in
theorem d_S_odds_35 : Dc m_S_odds 35 (.iload 4) 2 37 := ⟨by decide +kernel, rfl⟩
set_option maxRecDepth 100000 in
theorem d_S_odds_37 : Dc m_S_odds 37 (.aload_n 0) 1 38 := ⟨by decide +kernel, rfl⟩
set_option maxRecDepth 100000 in
theorem d_S_odds_38 : Dc m_S_odds 38 (.getfield 12) 3 41 := ⟨by decide +kernel, rfl⟩
set_option maxRecDepth 100000 in
theorem d_S_odds_41 : Dc m_S_odds 41 (.getfield 122) 3 44 := ⟨by decide +kernel, rfl⟩
set_option maxRecDepth 100000 in
theorem d_S_odds_44 : Dj m_S_odds 44 (.if_icmp .ge) 47 74 := ⟨30, by decide +kernel, rfl, by decide⟩
set_option maxRecDepth 100000 in
theorem d_S_odds_47 : Dc m_S_odds 47 (.iload_n 3) 1 48 := ⟨by decide +kernel, rfl⟩
set_option maxRecDepth 100000 in
theorem d_S_odds_48 : Dc m_S_odds 48 (.aload_n 0) 1 49 := ⟨by decide +kernel, rfl⟩
set_option maxRecDepth 100000 in
theorem d_S_odds_49 : Dc m_S_odds 49 (.aload_n 0) 1 50 := ⟨by decide +kernel, rfl⟩
set_option maxRecDepth 100000 in
theorem d_S_odds_50 : Dc m_S_odds 50 (.getfield 12) 3 53 := ⟨by decide +kernel, rfl⟩
set_option maxRecDepth 100000 in
theorem d_S_odds_53 : Dc m_S_odds 53 (.getfield 236) 3 56 := ⟨by decide +kernel, rfl⟩
set_option maxRecDepth 100000 in
theorem d_S_odds_56 : Dc m_S_odds 56 (.iload 4) 2 58 := ⟨by decide +kernel, rfl⟩
set_option maxRecDepth 100000 in
theorem d_S_odds_58 : Dc m_S_odds 58 .aaload 1 59 := ⟨by decide +kernel, rfl⟩
set_option maxRecDepth 100000 in
theorem d_S_odds_59 : Dc m_S_odds 59 (.iload_n 1) 1 60 := ⟨by decide +kernel, rfl⟩
set_option maxRecDepth 100000 in
theorem d_S_odds_60 : Dc m_S_odds 60 (.invokevirtual 223) 3 63 := ⟨by decide +kernel, rfl⟩
set_option maxRecDepth 100000 in
theorem d_S_odds_63 : Dc m_S_odds 63 (.invokestatic 240) 3 66 := ⟨by decide +kernel, rfl⟩
set_option maxRecDepth 100000 in
theorem d_S_odds_66 : Dc m_S_odds 66 .iadd 1 67 := ⟨by decide +kernel, rfl⟩
set_option maxRecDepth 100000 in
theorem d_S_odds_67 : Dc m_S_odds 67 (.istore_n 3) 1 68 := ⟨by decide +kernel, rfl⟩
set_option maxRecDepth 100000 in
theorem d_S_odds_68 : Dc m_S_odds 68 (.iinc 4 (1)) 3 71 := ⟨by decide +kernel, rfl⟩
set_option maxRecDepth 100000 in
theorem d_S_odds_71 : Dj m_S_odds 71 .goto 74 35 := ⟨-36, by decide +kernel, rfl, by decide⟩
set_option maxRecDepth 100000 in
theorem d_S_odds_74 : Dc m_S_odds 74 (.aload_n 0) 1 75 := ⟨by decide +kernel, rfl⟩
set_option maxRecDepth 100000 in
theorem d_S_odds_75 : Dc m_S_odds 75 (.getfield 12) 3 78 := ⟨by decide +kernel, rfl⟩
set_option maxRecDepth 100000 in
theorem d_S_odds_78 : Dc m_S_odds 78 (.getfield 122) 3 81 := ⟨by decide +kernel, rfl⟩
set_option maxRecDepth 100000 in
theorem d_S_odds_81 : Dc m_S_odds 81 (.bipush (36)) 2 83 := ⟨by decide +kernel, rfl⟩
set_option maxRecDepth 100000 in
theorem d_S_odds_83 : Dc m_S_odds 83 .imul 1 84 := ⟨by decide +kernel, rfl⟩
set_option maxRecDepth 100000 in
theorem d_S_odds_84 : Dc m_S_odds 84 (.istore 4) 2 86 := ⟨by decide +kernel, rfl⟩
set_option maxRecDepth 100000 in
theorem d_S_odds_86 : Dc m_S_odds 86 (.iload_n 3) 1 87 := ⟨by decide +kernel, rfl⟩
set_option maxRecDepth 100000 in
theorem d_S_odds_87 : Dc m_S_odds 87 (.iload 4) 2 89 := ⟨by decide +kernel, rfl⟩
set_option maxRecDepth 100000 in
theorem d_S_odds_89 : Dc m_S_odds 89 (.invokestatic 246) 3 92 := ⟨by decide +kernel, rfl⟩
set_option maxRecDepth 100000 in
theorem d_S_odds_92 : Dc m_S_odds 92 (.istore 5) 2 94 := ⟨by decide +kernel, rfl⟩
set_option maxRecDepth 100000 in
theorem d_S_odds_94 : Dc m_S_odds 94 (.iload_n 2) 1 95 := ⟨by decide +kernel, rfl⟩
set_option maxRecDepth 100000 in
theorem d_S_odds_95 : Dj m_S_odds 95 (.ifCond .ne) 98 102 := ⟨7, by decide +kernel, rfl, by decide⟩
set_option maxRecDepth 100000 in
theorem d_S_odds_98 : Dc m_S_odds 98 (.iload_n 3) 1 99 := ⟨by decide +kernel, rfl⟩
set_option maxRecDepth 100000 in
theorem d_S_odds_99 : Dj m_S_odds 99 .goto 102 104 := ⟨5, by decide +kernel, rfl, by decide⟩
set_option maxRecDepth 100000 in
theorem d_S_odds_102 : Dc m_S_odds 102 (.iload 4) 2 104 := ⟨by decide +kernel, rfl⟩
set_option maxRecDepth 100000 in
theorem d_S_odds_104 : Dc m_S_odds 104 (.iload 5) 2 106 := ⟨by decide +kernel, rfl⟩
set_option maxRecDepth 100000 in
theorem d_S_odds_106 : Dc m_S_odds 106 .idiv 1 107 := ⟨by decide +kernel, rfl⟩
set_option maxRecDepth 100000 in
theorem d_S_odds_107 : Dc m_S_odds 107 .ireturn 1 108 := ⟨by decide +kernel, rfl⟩
set_option maxRecDepth 100000 in
theorem d_S_best_0 : Dc m_S_best 0 (.aload_n 0) 1 1 := ⟨by decide +kernel, rfl⟩
set_option maxRecDepth 100000 in
theorem d_S_best_1 : Dc m_S_best 1 (.getfield 12) 3 4 := ⟨by decide +kernel, rfl⟩
set_option maxRecDepth 100000 in
theorem d_S_best_4 : Dc m_S_best 4 (.iload_n 1) 1 5 := ⟨by decide +kernel, rfl⟩
set_option maxRecDepth 100000 in
theorem d_S_best_5 : Dc m_S_best 5 (.invokevirtual 127) 3 8 := ⟨by decide +kernel, rfl⟩
set_option maxRecDepth 100000 in
theorem d_S_best_8 : Dc m_S_best 8 (.astore 5) 2 10 := ⟨by decide +kernel, rfl⟩
set_option maxRecDepth 100000 in
theorem d_S_best_10 : Dc m_S_best 10 (.aload 5) 2 12 := ⟨by decide +kernel, rfl⟩
set_option maxRecDepth 100000 in
theorem d_S_best_12 : Dj m_S_best 12 .ifnull 15 43 := ⟨31, by decide +kernel, rfl, by decide⟩
set_option maxRecDepth 100000 in
theorem d_S_best_15 : Dc m_S_best 15 (.iload_n 2) 1 16 := ⟨by decide +kernel, rfl⟩
set_option maxRecDepth 100000 in
theorem d_S_best_16 : Dc m_S_best 16 (.iconst 1) 1 17 := ⟨by decide +kernel, rfl⟩
set_option maxRecDepth 100000 in
theorem d_S_best_17 : Dj m_S_best 17 (.if_icmp .lt) 20 43 := ⟨26, by decide +kernel, rfl, by decide⟩
set_option maxRecDepth 100000 in
theorem d_S_best_20 : Dc m_S_best 20 (.iload_n 2) 1 21 := ⟨by decide +kernel, rfl⟩
set_option maxRecDepth 100000 in
theorem d_S_best_21 : Dc m_S_best 21 (.iconst 2) 1 22 := ⟨by decide +kernel, rfl⟩
set_option maxRecDepth 100000 in
theorem d_S_best_22 : Dj m_S_best 22 (.if_icmp .gt) 25 43 := ⟨21, by decide +kernel, rfl, by decide⟩
set_option maxRecDepth 100000 in
theorem d_S_best_25 : Dc m_S_best 25 (.iload_n 3) 1 26 := ⟨by decide +kernel, rfl⟩
set_option maxRecDepth 100000 in
theorem d_S_best_26 : Dc m_S_best 26 (.bipush (9)) 2 28 := ⟨by decide +kernel, rfl⟩
set_option maxRecDepth 100000 in
theorem d_S_best_28 : Dc m_S_best 28 (.invokestatic 118) 3 31 := ⟨by decide +kernel, rfl⟩
set_option maxRecDepth 100000 in
theorem d_S_best_31 : Dj m_S_best 31 (.ifCond .eq) 34 43 := ⟨12, by decide +kernel, rfl, by decide⟩
set_option maxRecDepth 100000 in
theorem d_S_best_34 : Dc m_S_best 34 (.iload 4) 2 36 := ⟨by decide +kernel, rfl⟩
set_option maxRecDepth 100000 in
theorem d_S_best_36 : Dc m_S_best 36 (.iconst 1) 1 37 := ⟨by decide +kernel, rfl⟩
set_option maxRecDepth 100000 in
theorem d_S_best_37 : Dc m_S_best 37 (.invokestatic 118) 3 40 := ⟨by decide +kernel, rfl⟩
set_option maxRecDepth 100000 in
theorem d_S_best_40 : Dj m_S_best 40 (.ifCond .ne) 43 45 := ⟨5, by decide +kernel, rfl, by decide⟩
set_option maxRecDepth 100000 in
theorem d_S_best_43 : Dc m_S_best 43 (.iconst (-1)) 1 44 := ⟨by decide +kernel, rfl⟩
set_option maxRecDepth 100000 in
theorem d_S_best_44 : Dc m_S_best 44 .ireturn 1 45 := ⟨by decide +kernel, rfl⟩
set_option maxRecDepth 100000 in
theorem d_S_best_45 : Dc m_S_best 45 (.aload_n 0) 1 46 := ⟨by decide +kernel, rfl⟩
set_option maxRecDepth 100000 in
theorem d_S_best_46 : Dc m_S_best 46 (.getfield 54) 3 49 := ⟨by decide +kernel, rfl⟩
set_option maxRecDepth 100000 in
theorem d_S_best_49 : Dc m_S_best 49 (.aload 5) 2 51 := ⟨by decide +kernel, rfl⟩
set_option maxRecDepth 100000 in
theorem d_S_best_51 : Dc m_S_best 51 (.iload_n 3) 1 52 := ⟨by decide +kernel, rfl⟩
set_option maxRecDepth 100000 in
theorem d_S_best_52 : Dc m_S_best 52 (.aload_n 0) 1 53 := ⟨by decide +kernel, rfl⟩
set_option maxRecDepth 100000 in
theorem d_S_best_53 : Dc m_S_best 53 (.getfield 12) 3 56 := ⟨by decide +kernel, rfl⟩
set_option maxRecDepth 100000 in
theorem d_S_best_56 : Dc m_S_best 56 (.getfield 184) 3 59 := ⟨by decide +kernel, rfl⟩
set_option maxRecDepth 100000 in
theorem d_S_best_59 : Dc m_S_best 59 (.iconst 0) 1 60 := ⟨by decide +kernel, rfl⟩
set_option maxRecDepth 100000 in
theorem d_S_best_60 : Dc m_S_best 60 .iaload 1 61 := ⟨by decide +kernel, rfl⟩
set_option maxRecDepth 100000 in
theorem d_S_best_61 : Dc m_S_best 61 (.invokevirtual 249) 3 64 := ⟨by decide +kernel, rfl⟩
set_option maxRecDepth 100000 in
theorem d_S_best_64 : Dc m_S_best 64 (.iload_n 2) 1 65 := ⟨by decide +kernel, rfl⟩
set_option maxRecDepth 100000 in
theorem d_S_best_65 : Dc m_S_best 65 (.iconst 1) 1 66 := ⟨by decide +kernel, rfl⟩
set_option maxRecDepth 100000 in
theorem d_S_best_66 : Dj m_S_best 66 (.if_icmp .ne) 69 79 := ⟨13, by decide +kernel, rfl, by decide⟩
set_option maxRecDepth 100000 in
theorem d_S_best_69 : Dc m_S_best 69 (.aload_n 0) 1 70 := ⟨by decide +kernel, rfl⟩
set_option maxRecDepth 100000 in
theorem d_S_best_70 : Dc m_S_best 70 (.getfield 54) 3 73 := ⟨by decide +kernel, rfl⟩
set_option maxRecDepth 100000 in
theorem d_S_best_73 : Dc m_S_best 73 (.invokevirtual 253) 3 76 := ⟨by decide +kernel, rfl⟩
set_option maxRecDepth 100000 in
theorem d_S_best_76 : Dj m_S_best 76 .goto 79 86 := ⟨10, by decide +kernel, rfl, by decide⟩
set_option maxRecDepth 100000 in
theorem d_S_best_79 : Dc m_S_best 79 (.aload_n 0) 1 80 := ⟨by decide +kernel, rfl⟩
set_option maxRecDepth 100000 in
theorem d_S_best_80 : Dc m_S_best 80 (.getfield 54) 3 83 := ⟨by decide +kernel, rfl⟩
set_option maxRecDepth 100000 in
theorem d_S_best_83 : Dc m_S_best 83 (.invokevirtual 256) 3 86 := ⟨by decide +kernel, rfl⟩
set_option maxRecDepth 100000 in
theorem d_S_best_86 : Dc m_S_best 86 (.iload 4) 2 88 := ⟨by decide +kernel, rfl⟩
set_option maxRecDepth 100000 in
theorem d_S_best_88 : Dj m_S_best 88 (.ifCond .ne) 91 109 := ⟨21, by decide +kernel, rfl, by decide⟩
set_option maxRecDepth 100000 in
theorem d_S_best_91 : Dc m_S_best 91 (.aload_n 0) 1 92 := ⟨by decide +kernel, rfl⟩
set_option maxRecDepth 100000 in
theorem d_S_best_92 : Dc m_S_best 92 (.getfield 54) 3 95 := ⟨by decide +kernel, rfl⟩
set_option maxRecDepth 100000 in
theorem d_S_best_95 : Dc m_S_best 95 (.getfield 259) 3 98 := ⟨by decide +kernel, rfl⟩
set_option maxRecDepth 100000 in
theorem d_S_best_98 : Dc m_S_best 98 (.aload_n 0) 1 99 := ⟨by decide +kernel, rfl⟩
set_option maxRecDepth 100000 in
theorem d_S_best_99 : Dc m_S_best 99 (.getfield 54) 3 102 := ⟨by decide +kernel, rfl⟩
set_option maxRecDepth 100000 in
theorem d_S_best_102 : Dc m_S_best 102 (.getfield 262) 3 105 := ⟨by decide +kernel, rfl⟩
set_option maxRecDepth 100000 in
theorem d_S_best_105 : Dc m_S_best 105 .iadd 1 106 := ⟨by decide +kernel, rfl⟩
set_option maxRecDepth 100000 in
theorem d_S_best_106 : Dj m_S_best 106 .goto 109 116 := ⟨10, by decide +kernel, rfl, by decide⟩
set_option maxRecDepth 100000 in
theorem d_S_best_109 : Dc m_S_best 109 (.aload_n 0) 1 110 := ⟨by decide +kernel, rfl⟩
set_option maxRecDepth 100000 in
theorem d_S_best_110 : Dc m_S_best 110 (.getfield 54) 3 113 := ⟨by decide +kernel, rfl⟩
set_option maxRecDepth 100000 in
theorem d_S_best_113 : Dc m_S_best 113 (.getfield 265) 3 116 := ⟨by decide +kernel, rfl⟩
set_option maxRecDepth 100000 in
theorem d_S_best_116 : Dc m_S_best 116 .ireturn 1 117 := ⟨by decide +kernel, rfl⟩
set_option maxRecDepth 100000 in
theorem d_S_till_0 : Dc m_S_till 0 (.aload_n 0) 1 1 := ⟨by decide +kernel, rfl⟩
set_option maxRecDepth 100000 in
theorem d_S_till_1 : Dc m_S_till 1 (.getfield 12) 3 4 := ⟨by decide +kernel, rfl⟩
set_option maxRecDepth 100000 in
theorem d_S_till_4 : Dc m_S_till 4 (.iload_n 1) 1 5 := ⟨by decide +kernel, rfl⟩
set_option maxRecDepth 100000 in
theorem d_S_till_5 : Dc m_S_till 5 (.invokevirtual 127) 3 8 := ⟨by decide +kernel, rfl⟩
set_option maxRecDepth 100000 in
theorem d_S_till_8 : Dc m_S_till 8 (.astore 4) 2 10 := ⟨by decide +kernel, rfl⟩
set_option maxRecDepth 100000 in
theorem d_S_till_10 : Dc m_S_till 10 (.aload 4) 2 12 := ⟨by decide +kernel, rfl⟩
set_option maxRecDepth 100000 in
theorem d_S_till_12 : Dj m_S_till 12 .ifnull 15 31 := ⟨19, by decide +kernel, rfl, by decide⟩
set_option maxRecDepth 100000 in
theorem d_S_till_15 : Dc m_S_till 15 (.iload_n 2) 1 16 := ⟨by decide +kernel, rfl⟩
set_option maxRecDepth 100000 in
theorem d_S_till_16 : Dc m_S_till 16 (.invokestatic 144) 3 19 := ⟨by decide +kernel, rfl⟩
set_option maxRecDepth 100000 in
theorem d_S_till_19 : Dj m_S_till 19 (.ifCond .eq) 22 31 := ⟨12, by decide +kernel, rfl, by decide⟩
set_option maxRecDepth 100000 in
theorem d_S_till_22 : Dc m_S_till 22 (.iload_n 3) 1 23 := ⟨by decide +kernel, rfl⟩
set_option maxRecDepth 100000 in
theorem d_S_till_23 : Dc m_S_till 23 (.bipush (100)) 2 25 := ⟨by decide +kernel, rfl⟩
set_option maxRecDepth 100000 in
theorem d_S_till_25 : Dc m_S_till 25 (.invokestatic 118) 3 28 := ⟨by decide +kernel, rfl⟩
set_option maxRecDepth 100000 in
theorem d_S_till_28 : Dj m_S_till 28 (.ifCond .ne) 31 33 := ⟨5, by decide +kernel, rfl, by decide⟩
set_option maxRecDepth 100000 in
theorem d_S_till_31 : Dc m_S_till 31 (.iconst (-1)) 1 32 := ⟨by decide +kernel, rfl⟩
set_option maxRecDepth 100000 in
theorem d_S_till_32 : Dc m_S_till 32 .ireturn 1 33 := ⟨by decide +kernel, rfl⟩
set_option maxRecDepth 100000 in
theorem d_S_till_33 : Dc m_S_till 33 (.aload 4) 2 35 := ⟨by decide +kernel, rfl⟩
set_option maxRecDepth 100000 in
theorem d_S_till_35 : Dc m_S_till 35 (.getfield 166) 3 38 := ⟨by decide +kernel, rfl⟩
set_option maxRecDepth 100000 in
theorem d_S_till_38 : Dc m_S_till 38 (.iload_n 2) 1 39 := ⟨by decide +kernel, rfl⟩
set_option maxRecDepth 100000 in
theorem d_S_till_39 : Dc m_S_till 39 .iaload 1 40 := ⟨by decide +kernel, rfl⟩
set_option maxRecDepth 100000 in
theorem d_S_till_40 : Dc m_S_till 40 (.istore 5) 2 42 := ⟨by decide +kernel, rfl⟩
set_option maxRecDepth 100000 in
theorem d_S_till_42 : Dc m_S_till 42 (.iconst 0) 1 43 := ⟨by decide +kernel, rfl⟩
set_option maxRecDepth 100000 in
theorem d_S_till_43 : Dc m_S_till 43 (.istore 6) 2 45 := ⟨by decide +kernel, rfl⟩
set_option maxRecDepth 100000 in
theorem d_S_till_45 : Dc m_S_till 45 (.iload 6) 2 47 := ⟨by decide +kernel, rfl⟩
set_option maxRecDepth 100000 in
theorem d_S_till_47 : Dc m_S_till 47 (.bipush (99)) 2 49 := ⟨by decide +kernel, rfl⟩
set_option maxRecDepth 100000 in
theorem d_S_till_49 : Dj m_S_till 49 (.if_icmp .ge) 52 71 := ⟨22, by decide +kernel, rfl, by decide⟩
set_option maxRecDepth 100000 in
theorem d_S_till_52 : Dc m_S_till 52 (.iload 5) 2 54 := ⟨by decide +kernel, rfl⟩
set_option maxRecDepth 100000 in
theorem d_S_till_54 : Dc m_S_till 54 (.iload_n 3) 1 55 := ⟨by decide +kernel, rfl⟩
set_option maxRecDepth 100000 in
theorem d_S_till_55 : Dj m_S_till 55 (.if_icmp .ge) 58 71 := ⟨16, by decide +kernel, rfl, by decide⟩
set_option maxRecDepth 100000 in
theorem d_S_till_58 : Dc m_S_till 58 (.iload 5) 2 60 := ⟨by decide +kernel, rfl⟩
set_option maxRecDepth 100000 in
theorem d_S_till_60 : Dc m_S_till 60 (.invokestatic 268) 3 63 := ⟨by decide +kernel, rfl⟩
set_option maxRecDepth 100000 in
theorem d_S_till_63 : Dc m_S_till 63 (.istore 5) 2 65 := ⟨by decide +kernel, rfl⟩
set_option maxRecDepth 100000 in
theorem d_S_till_65 : Dc m_S_till 65 (.iinc 6 (1)) 3 68 := ⟨by decide +kernel, rfl⟩
set_option maxRecDepth 100000 in
theorem d_S_till_68 : Dj m_S_till 68 .goto 71 45 := ⟨-23, by decide +kernel, rfl, by decide⟩
set_option maxRecDepth 100000 in
theorem d_S_till_71 : Dc m_S_till 71 (.iload 6) 2 73 := ⟨by decide +kernel, rfl⟩
set_option maxRecDepth 100000 in
theorem d_S_till_73 : Dc m_S_till 73 .ireturn 1 74 := ⟨by decide +kernel, rfl⟩
set_option maxRecDepth 100000 in
theorem d_S_hardest_0 : Dc m_S_hardest 0 (.iload_n 1) 1 1 := ⟨by decide +kernel, rfl⟩
set_option maxRecDepth 100000 in
theorem d_S_hardest_1 : Dc m_S_hardest 1 (.invokestatic 190) 3 4 := ⟨by decide +kernel, rfl⟩
set_option maxRecDepth 100000 in
theorem d_S_hardest_4 : Dj m_S_hardest 4 (.ifCond .ne) 7 9 := ⟨5, by decide +kernel, rfl, by decide⟩
set_option maxRecDepth 100000 in
theorem d_S_hardest_7 : Dc m_S_hardest 7 (.iconst (-1)) 1 8 := ⟨by decide +kernel, rfl⟩
set_option maxRecDepth 100000 in
theorem d_S_hardest_8 : Dc m_S_hardest 8 .ireturn 1 9 := ⟨by decide +kernel, rfl⟩
set_option maxRecDepth 100000 in
theorem d_S_hardest_9 : Dc m_S_hardest 9 (.aload_n 0) 1 10 := ⟨by decide +kernel, rfl⟩
set_option maxRecDepth 100000 in
theorem d_S_hardest_10 : Dc m_S_hardest 10 (.getfield 12) 3 13 := ⟨by decide +kernel, rfl⟩
set_option maxRecDepth 100000 in
theorem d_S_hardest_13 : Dc m_S_hardest 13 (.getfield 122) 3 16 := ⟨by decide +kernel, rfl⟩
set_option maxRecDepth 100000 in
theorem d_S_hardest_16 : Dj m_S_hardest 16 (.ifCond .ne) 19 22 := ⟨6, by decide +kernel, rfl, by decide⟩
set_option maxRecDepth 100000 in
theorem d_S_hardest_19 : Dc m_S_hardest 19 (.bipush (-3)) 2 21 := ⟨by decide +kernel, rfl⟩
set_option maxRecDepth 100000 in
theorem d_S_hardest_21 : Dc m_S_hardest 21 .ireturn 1 22 := ⟨by decide +kernel, rfl⟩
set_option maxRecDepth 100000 in
theorem d_S_hardest_22 : Dc m_S_hardest 22 (.iconst 0) 1 23 := ⟨by decide +kernel, rfl⟩
set_option maxRecDepth 100000 in
theorem d_S_hardest_23 : Dc m_S_hardest 23 (.istore_n 2) 1 24 := ⟨by decide +kernel, rfl⟩
set_option maxRecDepth 100000 in
theorem d_S_hardest_24 : Dc m_S_hardest 24 (.iconst 5) 1 25 := ⟨by decide +kernel, rfl⟩
set_option maxRecDepth 100000 in
theorem d_S_hardest_25 : Dc m_S_hardest 25 (.istore_n 3) 1 26 := ⟨by decide +kernel, rfl⟩
set_option maxRecDepth 100000 in
theorem d_S_hardest_26 : Dc m_S_hardest 26 (.iconst 0) 1 27 := ⟨by decide +kernel, rfl⟩
set_option maxRecDepth 100000 in
theorem d_S_hardest_27 : Dc m_S_hardest 27 (.istore 4) 2 29 := ⟨by decide +kernel, rfl⟩
set_option maxRecDepth 100000 in
theorem d_S_hardest_29 : Dc m_S_hardest 29 (.iload 4) 2 31 := ⟨by decide +kernel, rfl⟩
set_option maxRecDepth 100000 in
theorem d_S_hardest_31 : Dc m_S_hardest 31 (.bipush (36)) 2 33 := ⟨by decide +kernel, rfl⟩
set_option maxRecDepth 100000 in
theorem d_S_hardest_33 : Dj m_S_hardest 33 (.if_icmp .ge) 36 63 := ⟨30, by decide +kernel, rfl, by decide⟩
set_option maxRecDepth 100000 in
theorem d_S_hardest_36 : Dc m_S_hardest 36 (.aload_n 0) 1 37 := ⟨by decide +kernel, rfl⟩
set_option maxRecDepth 100000 in
theorem d_S_hardest_37 : Dc m_S_hardest 37 (.iload 4) 2 39 := ⟨by decide +kernel, rfl⟩
set_option maxRecDepth 100000 in
theorem d_S_hardest_39 : Dc m_S_hardest 39 (.iload_n 1) 1 40 := ⟨by decide +kernel, rfl⟩
set_option maxRecDepth 100000 in
theorem d_S_hardest_40 : Dc m_S_hardest 40 (.invokevirtual 271) 3 43 := ⟨by decide +kernel, rfl⟩
set_option maxRecDepth 100000 in
theorem d_S_hardest_43 : Dc m_S_hardest 43 (.istore 5) 2 45 := ⟨by decide +kernel, rfl⟩
set_option maxRecDepth 100000 in
theorem d_S_hardest_45 : Dc m_S_hardest 45 (.iload 5) 2 47 := ⟨by decide +kernel, rfl⟩
set_option maxRecDepth 100000 in
theorem d_S_hardest_47 : Dc m_S_hardest 47 (.iload_n 3) 1 48 := ⟨by decide +kernel, rfl⟩
set_option maxRecDepth 100000 in
theorem d_S_hardest_48 : Dj m_S_hardest 48 (.if_icmp .ge) 51 57 := ⟨9, by decide +kernel, rfl, by decide⟩
set_option maxRecDepth 100000 in
theorem d_S_hardest_51 : Dc m_S_hardest 51 (.iload 5) 2 53 := ⟨by decide +kernel, rfl⟩
set_option maxRecDepth 100000 in
theorem d_S_hardest_53 : Dc m_S_hardest 53 (.istore_n 3) 1 54 := ⟨by decide +kernel, rfl⟩
set_option maxRecDepth 100000 in
theorem d_S_hardest_54 : Dc m_S_hardest 54 (.iload 4) 2 56 := ⟨by decide +kernel, rfl⟩
set_option maxRecDepth 100000 in
theorem d_S_hardest_56 : Dc m_S_hardest 56 (.istore_n 2) 1 57 := ⟨by decide +kernel, rfl⟩
set_option maxRecDepth 100000 in
theorem d_S_hardest_57 : Dc m_S_hardest 57 (.iinc 4 (1)) 3 60 := ⟨by decide +kernel, rfl⟩
set_option maxRecDepth 100000 in
theorem d_S_hardest_60 : Dj m_S_hardest 60 .goto 63 29 := ⟨-31, by decide +kernel, rfl, by decide⟩
set_option maxRecDepth 100000 in
theorem d_S_hardest_63 : Dc m_S_hardest 63 (.iload_n 2) 1 64 := ⟨by decide +kernel, rfl⟩
set_option maxRecDepth 100000 in
theorem d_S_hardest_64 : Dc m_S_hardest 64 .ireturn 1 65 := ⟨by decide +kernel, rfl⟩
set_option maxRecDepth 100000 in
theorem d_S_draws_0 : Dc m_S_draws 0 (.aload_n 0) 1 1 := ⟨by decide +kernel, rfl⟩
set_option maxRecDepth 100000 in
theorem d_S_draws_1 : Dc m_S_draws 1 (.getfield 12) 3 4 := ⟨by decide +kernel, rfl⟩
set_option maxRecDepth 100000 in
theorem d_S_draws_4 : Dc m_S_draws 4 (.iload_n 1) 1 5 := ⟨by decide +kernel, rfl⟩
set_option maxRecDepth 100000 in
theorem d_S_draws_5 : Dc m_S_draws 5 (.invokevirtual 127) 3 8 := ⟨by decide +kernel, rfl⟩
set_option maxRecDepth 100000 in
theorem d_S_draws_8 : Dc m_S_draws 8 (.astore 4) 2 10 := ⟨by decide +kernel, rfl⟩
set_option maxRecDepth 100000 in
theorem d_S_draws_10 : Dc m_S_draws 10 (.aload 4) 2 12 := ⟨by decide +kernel, rfl⟩
set_option maxRecDepth 100000 in
theorem d_S_draws_12 : Dj m_S_draws 12 .ifnull 15 30 := ⟨18, by decide +kernel, rfl, by decide⟩
set_option maxRecDepth 100000 in
theorem d_S_draws_15 : Dc m_S_draws 15 (.iload_n 2) 1 16 := ⟨by decide +kernel, rfl⟩
set_option maxRecDepth 100000 in
theorem d_S_draws_16 : Dc m_S_draws 16 (.invokestatic 190) 3 19 := ⟨by decide +kernel, rfl⟩
set_option maxRecDepth 100000 in
theorem d_S_draws_19 : Dj m_S_draws 19 (.ifCond .eq) 22 30 := ⟨11, by decide +kernel, rfl, by decide⟩
set_option maxRecDepth 100000 in
theorem d_S_draws_22 : Dc m_S_draws 22 (.iload_n 3) 1 23 := ⟨by decide +kernel, rfl⟩
set_option maxRecDepth 100000 in
theorem d_S_draws_23 : Dc m_S_draws 23 (.iconst 1) 1 24 := ⟨by decide +kernel, rfl⟩
set_option maxRecDepth 100000 in
theorem d_S_draws_24 : Dc m_S_draws 24 (.invokestatic 118) 3 27 := ⟨by decide +kernel, rfl⟩
set_option maxRecDepth 100000 in
theorem d_S_draws_27 : Dj m_S_draws 27 (.ifCond .ne) 30 32 := ⟨5, by decide +kernel, rfl, by decide⟩
set_option maxRecDepth 100000 in
theorem d_S_draws_30 : Dc m_S_draws 30 (.iconst (-1)) 1 31 := ⟨by decide +kernel, rfl⟩
set_option maxRecDepth 100000 in
theorem d_S_draws_31 : Dc m_S_draws 31 .ireturn 1 32 := ⟨by decide +kernel, rfl⟩
set_option maxRecDepth 100000 in
theorem d_S_draws_32 : Dc m_S_draws 32 (.aload_n 0) 1 33 := ⟨by decide +kernel, rfl⟩
set_option maxRecDepth 100000 in
theorem d_S_draws_33 : Dc m_S_draws 33 (.aload 4) 2 35 := ⟨by decide +kernel, rfl⟩
set_option maxRecDepth 100000 in
theorem d_S_draws_35 : Dc m_S_draws 35 (.iload_n 2) 1 36 := ⟨by decide +kernel, rfl⟩
set_option maxRecDepth 100000 in
theorem d_S_draws_36 : Dc m_S_draws 36 (.invokevirtual 274) 3 39 := ⟨by decide +kernel, rfl⟩
set_option maxRecDepth 100000 in
theorem d_S_draws_39 : Dc m_S_draws 39 (.iconst 0) 1 40 := ⟨by decide +kernel, rfl⟩
set_option maxRecDepth 100000 in
theorem d_S_draws_40 : Dc m_S_draws 40 (.istore 5) 2 42 := ⟨by decide +kernel, rfl⟩
set_option maxRecDepth 100000 in
theorem d_S_draws_42 : Dc m_S_draws 42 (.iconst 1) 1 43 := ⟨by decide +kernel, rfl⟩
set_option maxRecDepth 100000 in
theorem d_S_draws_43 : Dc m_S_draws 43 (.istore 6) 2 45 := ⟨by decide +kernel, rfl⟩
set_option maxRecDepth 100000 in
theorem d_S_draws_45 : Dc m_S_draws 45 (.iload 6) 2 47 := ⟨by decide +kernel, rfl⟩
set_option maxRecDepth 100000 in
theorem d_S_draws_47 : Dc m_S_draws 47 (.bipush (36)) 2 49 := ⟨by decide +kernel, rfl⟩
set_option maxRecDepth 100000 in
theorem d_S_draws_49 : Dj m_S_draws 49 (.if_icmp .ge) 52 79 := ⟨30, by decide +kernel, rfl, by decide⟩
set_option maxRecDepth 100000 in
theorem d_S_draws_52 : Dc m_S_draws 52 (.aload_n 0) 1 53 := ⟨by decide +kernel, rfl⟩
set_option maxRecDepth 100000 in
theorem d_S_draws_53 : Dc m_S_draws 53 (.getfield 58) 3 56 := ⟨by decide +kernel, rfl⟩
set_option maxRecDepth 100000 in
theorem d_S_draws_56 : Dc m_S_draws 56 (.iload 6) 2 58 := ⟨by decide +kernel, rfl⟩
set_option maxRecDepth 100000 in
theorem d_S_draws_58 : Dc m_S_draws 58 .iaload 1 59 := ⟨by decide +kernel, rfl⟩
set_option maxRecDepth 100000 in
theorem d_S_draws_59 : Dc m_S_draws 59 (.aload_n 0) 1 60 := ⟨by decide +kernel, rfl⟩
set_option maxRecDepth 100000 in
theorem d_S_draws_60 : Dc m_S_draws 60 (.getfield 58) 3 63 := ⟨by decide +kernel, rfl⟩
set_option maxRecDepth 100000 in
theorem d_S_draws_63 : Dc m_S_draws 63 (.iload 5) 2 65 := ⟨by decide +kernel, rfl⟩
set_option maxRecDepth 100000 in
theorem d_S_draws_65 : Dc m_S_draws 65 .iaload 1 66 := ⟨by decide +kernel, rfl⟩
set_option maxRecDepth 100000 in
theorem d_S_draws_66 : Dj m_S_draws 66 (.if_icmp .le) 69 73 := ⟨7, by decide +kernel, rfl, by decide⟩
set_option maxRecDepth 100000 in
theorem d_S_draws_69 : Dc m_S_draws 69 (.iload 6) 2 71 := ⟨by decide +kernel, rfl⟩
set_option maxRecDepth 100000 in
theorem d_S_draws_71 : Dc m_S_draws 71 (.istore 5) 2 73 := ⟨by decide +kernel, rfl⟩
set_option maxRecDepth 100000 in
theorem d_S_draws_73 : Dc m_S_draws 73 (.iinc 6 (1)) 3 76 := ⟨by decide +kernel, rfl⟩
set_option maxRecDepth 100000 in
theorem d_S_draws_76 : Dj m_S_draws 76 .goto 79 45 := ⟨-31, by decide +kernel, rfl, by decide⟩
set_option maxRecDepth 100000 in
theorem d_S_draws_79 : Dc m_S_draws 79 (.aload_n 0) 1 80 := ⟨by decide +kernel, rfl⟩
set_option maxRecDepth 100000 in
theorem d_S_draws_80 : Dc m_S_draws 80 (.getfield 58) 3 83 := ⟨by decide +kernel, rfl⟩
set_option maxRecDepth 100000 in
theorem d_S_draws_83 : Dc m_S_draws 83 (.iload 5) 2 85 := ⟨by decide +kernel, rfl⟩
set_option maxRecDepth 100000 in
theorem d_S_draws_85 : Dc m_S_draws 85 .iaload 1 86 := ⟨by decide +kernel, rfl⟩
set_option maxRecDepth 100000 in
theorem d_S_draws_86 : Dj m_S_draws 86 (.ifCond .ne) 89 92 := ⟨6, by decide +kernel, rfl, by decide⟩
set_option maxRecDepth 100000 in
theorem d_S_draws_89 : Dc m_S_draws 89 (.bipush (-3)) 2 91 := ⟨by decide +kernel, rfl⟩
set_option maxRecDepth 100000 in
theorem d_S_draws_91 : Dc m_S_draws 91 .ireturn 1 92 := ⟨by decide +kernel, rfl⟩
set_option maxRecDepth 100000 in
theorem d_S_draws_92 : Dc m_S_draws 92 (.iload_n 3) 1 93 := ⟨by decide +kernel, rfl⟩
set_option maxRecDepth 100000 in
theorem d_S_draws_93 : Dj m_S_draws 93 (.ifCond .ne) 96 101 := ⟨8, by decide +kernel, rfl, by decide⟩
set_option maxRecDepth 100000 in
theorem d_S_draws_96 : Dc m_S_draws 96 (.iload 5) 2 98 := ⟨by decide +kernel, rfl⟩
set_option maxRecDepth 100000 in
theorem d_S_draws_98 : Dj m_S_draws 98 .goto 101 108 := ⟨10, by decide +kernel, rfl, by decide⟩
set_option maxRecDepth 100000 in
theorem d_S_draws_101 : Dc m_S_draws 101 (.aload_n 0) 1 102 := ⟨by decide +kernel, rfl⟩
set_option maxRecDepth 100000 in
theorem d_S_draws_102 : Dc m_S_draws 102 (.getfield 58) 3 105 := ⟨by decide +kernel, rfl⟩
set_option maxRecDepth 100000 in
theorem d_S_draws_105 : Dc m_S_draws 105 (.iload 5) 2 107 := ⟨by decide +kernel, rfl⟩
set_option maxRecDepth 100000 in
theorem d_S_draws_107 : Dc m_S_draws 107 .iaload 1 108 := ⟨by decide +kernel, rfl⟩
set_option maxRecDepth 100000 in
theorem d_S_draws_108 : Dc m_S_draws 108 .ireturn 1 109 := ⟨by decide +kernel, rfl⟩
set_option maxRecDepth 100000 in
theorem d_S_give_0 : Dc m_S_give 0 (.aload_n 0) 1 1 := ⟨by decide +kernel, rfl⟩
set_option maxRecDepth 100000 in
theorem d_S_give_1 : Dc m_S_give 1 (.getfield 12) 3 4 := ⟨by decide +kernel, rfl⟩
set_option maxRecDepth 100000 in
theorem d_S_give_4 : Dc m_S_give 4 (.iload_n 1) 1 5 := ⟨by decide +kernel, rfl⟩
set_option maxRecDepth 100000 in
theorem d_S_give_5 : Dc m_S_give 5 (.invokevirtual 127) 3 8 := ⟨by decide +kernel, rfl⟩
set_option maxRecDepth 100000 in
theorem d_S_give_8 : Dc m_S_give 8 (.astore_n 2) 1 9 := ⟨by decide +kernel, rfl⟩
set_option maxRecDepth 100000 in
theorem d_S_give_9 : Dc m_S_give 9 (.aload_n 2) 1 10 := ⟨by decide +kernel, rfl⟩
set_option maxRecDepth 100000 in
theorem d_S_give_10 : Dj m_S_give 10 .ifnonnull 13 15 := ⟨5, by decide +kernel, rfl, by decide⟩
set_option maxRecDepth 100000 in
theorem d_S_give_13 : Dc m_S_give 13 (.iconst (-1)) 1 14 := ⟨by decide +kernel, rfl⟩
set_option maxRecDepth 100000 in
theorem d_S_give_14 : Dc m_S_give 14 .ireturn 1 15 := ⟨by decide +kernel, rfl⟩
set_option maxRecDepth 100000 in
theorem d_S_give_15 : Dc m_S_give 15 (.iconst 0) 1 16 := ⟨by decide +kernel, rfl⟩
set_option maxRecDepth 100000 in
theorem d_S_give_16 : Dc m_S_give 16 (.istore_n 3) 1 17 := ⟨by decide +kernel, rfl⟩
set_option maxRecDepth 100000 in
theorem d_S_give_17 : Dc m_S_give 17 (.iconst 0) 1 18 := ⟨by decide +kernel, rfl⟩
set_option maxRecDepth 100000 in
theorem d_S_give_18 : Dc m_S_give 18 (.istore 4) 2 20 := ⟨by decide +kernel, rfl⟩
set_option maxRecDepth 100000 in
theorem d_S_give_20 : Dc m_S_give 20 (.iload 4) 2 22 := ⟨by decide +kernel, rfl⟩
set_option maxRecDepth 100000 in
theorem d_S_give_22 : Dc m_S_give 22 (.aload_n 0) 1 23 := ⟨by decide +kernel, rfl⟩
set_option maxRecDepth 100000 in
theorem d_S_give_23 : Dc m_S_give 23 (.getfield 12) 3 26 := ⟨by decide +kernel, rfl⟩
set_option maxRecDepth 100000 in
theorem d_S_give_26 : Dc m_S_give 26 (.getfield 108) 3 29 := ⟨by decide +kernel, rfl⟩
set_option maxRecDepth 100000 in
theorem d_S_give_29 : Dc m_S_give 29 (.getfield 115) 3 32 := ⟨by decide +kernel, rfl⟩
set_option maxRecDepth 100000 in
theorem d_S_give_32 : Dj m_S_give 32 (.if_icmp .ge) 35 175 := ⟨143, by decide +kernel, rfl, by decide⟩
set_option maxRecDepth 100000 in
theorem d_S_give_35 : Dc m_S_give 35 (.aload_n 0) 1 36 := ⟨by decide +kernel, rfl⟩
set_option maxRecDepth 100000 in
theorem d_S_give_36 : Dc m_S_give 36 (.getfield 12) 3 39 := ⟨by decide +kernel, rfl⟩
set_option maxRecDepth 100000 in
theorem d_S_give_39 : Dc m_S_give 39 (.getfield 108) 3 42 := ⟨by decide +kernel, rfl⟩
set_option maxRecDepth 100000 in
theorem d_S_give_42 : Dc m_S_give 42 (.getfield 278) 3 45 := ⟨by decide +kernel, rfl⟩
set_option maxRecDepth 100000 in
theorem d_S_give_45 : Dc m_S_give 45 (.iload 4) 2 47 := ⟨by decide +kernel, rfl⟩
set_option maxRecDepth 100000 in
theorem d_S_give_47 : Dc m_S_give 47 .iaload 1 48 := ⟨by decide +kernel, rfl⟩
set_option maxRecDepth 100000 in
theorem d_S_give_48 : Dc m_S_give 48 (.istore 5) 2 50 := ⟨by decide +kernel, rfl⟩
set_option maxRecDepth 100000 in
theorem d_S_give_50 : Dc m_S_give 50 (.aload_n 0) 1 51 := ⟨by decide +kernel, rfl⟩
set_option maxRecDepth 100000 in
theorem d_S_give_51 : Dc m_S_give 51 (.getfield 12) 3 54 := ⟨by decide +kernel, rfl⟩
set_option maxRecDepth 100000 in
theorem d_S_give_54 : Dc m_S_give 54 (.getfield 108) 3 57 := ⟨by decide +kernel, rfl⟩
set_option maxRecDepth 100000 in
theorem d_S_give_57 : Dc m_S_give 57 (.getfield 281) 3 60 := ⟨by decide +kernel, rfl⟩
set_option maxRecDepth 100000 in
theorem d_S_give_60 : Dc m_S_give 60 (.iload 4) 2 62 := ⟨by decide +kernel, rfl⟩
set_option maxRecDepth 100000 in
theorem d_S_give_62 : Dc m_S_give 62 .iaload 1 63 := ⟨by decide +kernel, rfl⟩
set_option maxRecDepth 100000 in
theorem d_S_give_63 : Lsw m_S_give 63 [(0, 88), (1, 151)] 160 := ⟨97, [(0, 25), (1, 88)], 25, by decide +kernel, by decide, by decide +kernel, by decide +kernel⟩
set_option maxRecDepth 100000 in
theorem d_S_give_88 : Dc m_S_give 88 (.aload_n 0) 1 89 := ⟨by decide +kernel, rfl⟩
set_option maxRecDepth 100000 in
theorem d_S_give_89 : Dc m_S_give 89 (.getfield 47) 3 92 := ⟨by decide +kernel, rfl⟩
set_option maxRecDepth 100000 in
theorem d_S_give_92 : Dc m_S_give 92 (.aload_n 2) 1 93 := ⟨by decide +kernel, rfl⟩
set_option maxRecDepth 100000 in
theorem d_S_give_93 : Dc m_S_give 93 (.iload 5) 2 95 := ⟨by decide +kernel, rfl⟩
set_option maxRecDepth 100000 in
theorem d_S_give_95 : Dc m_S_give 95 (.aload_n 0) 1 96 := ⟨by decide +kernel, rfl⟩
set_option maxRecDepth 100000 in
theorem d_S_give_96 : Dc m_S_give 96 (.getfield 12) 3 99 := ⟨by decide +kernel, rfl⟩
set_option maxRecDepth 100000 in
theorem d_S_give_99 : Dc m_S_give 99 (.getfield 108) 3 102 := ⟨by decide +kernel, rfl⟩
set_option maxRecDepth 100000 in
theorem d_S_give_102 : Dc m_S_give 102 (.getfield 284) 3 105 := ⟨by decide +kernel, rfl⟩
set_option maxRecDepth 100000 in
theorem d_S_give_105 : Dc m_S_give 105 (.iload 4) 2 107 := ⟨by decide +kernel, rfl⟩
set_option maxRecDepth 100000 in
theorem d_S_give_107 : Dc m_S_give 107 .iaload 1 108 := ⟨by decide +kernel, rfl⟩
set_option maxRecDepth 100000 in
theorem d_S_give_108 : Dc m_S_give 108 (.aload_n 0) 1 109 := ⟨by decide +kernel, rfl⟩
set_option maxRecDepth 100000 in
theorem d_S_give_109 : Dc m_S_give 109 (.getfield 12) 3 112 := ⟨by decide +kernel, rfl⟩
set_option maxRecDepth 100000 in
theorem d_S_give_112 : Dc m_S_give 112 (.getfield 184) 3 115 := ⟨by decide +kernel, rfl⟩
set_option maxRecDepth 100000 in
theorem d_S_give_115 : Dc m_S_give 115 (.invokevirtual 196) 3 118 := ⟨by decide +kernel, rfl⟩
set_option maxRecDepth 100000 in
theorem d_S_give_118 : Dc m_S_give 118 (.aload_n 2) 1 119 := ⟨by decide +kernel, rfl⟩
set_option maxRecDepth 100000 in
theorem d_S_give_119 : Dc m_S_give 119 (.aload_n 0) 1 120 := ⟨by decide +kernel, rfl⟩
set_option maxRecDepth 100000 in
theorem d_S_give_120 : Dc m_S_give 120 (.getfield 47) 3 123 := ⟨by decide +kernel, rfl⟩
set_option maxRecDepth 100000 in
theorem d_S_give_123 : Dc m_S_give 123 (.iload 5) 2 125 := ⟨by decide +kernel, rfl⟩
set_option maxRecDepth 100000 in
theorem d_S_give_125 : Dc m_S_give 125 (.aload_n 0) 1 126 := ⟨by decide +kernel, rfl⟩
set_option maxRecDepth 100000 in
theorem d_S_give_126 : Dc m_S_give 126 (.getfield 12) 3 129 := ⟨by decide +kernel, rfl⟩
set_option maxRecDepth 100000 in
theorem d_S_give_129 : Dc m_S_give 129 (.getfield 187) 3 132 := ⟨by decide +kernel, rfl⟩
set_option maxRecDepth 100000 in
theorem d_S_give_132 : Dc m_S_give 132 (.invokevirtual 212) 3 135 := ⟨by decide +kernel, rfl⟩
set_option maxRecDepth 100000 in
theorem d_S_give_135 : Dc m_S_give 135 (.aload_n 0) 1 136 := ⟨by decide +kernel, rfl⟩
set_option maxRecDepth 100000 in
theorem d_S_give_136 : Dc m_S_give 136 (.getfield 47) 3 139 := ⟨by decide +kernel, rfl⟩
set_option maxRecDepth 100000 in
theorem d_S_give_139 : Dc m_S_give 139 (.invokevirtual 286) 3 142 := ⟨by decide +kernel, rfl⟩
set_option maxRecDepth 100000 in
theorem d_S_give_142 : Dj m_S_give 142 (.ifCond .eq) 145 169 := ⟨27, by decide +kernel, rfl, by decide⟩
set_option maxRecDepth 100000 in
theorem d_S_give_145 : Dc m_S_give 145 (.iinc 3 (1)) 3 148 := ⟨by decide +kernel, rfl⟩
set_option maxRecDepth 100000 in
theorem d_S_give_148 : Dj m_S_give 148 .goto 151 169 := ⟨21, by decide +kernel, rfl, by decide⟩
set_option maxRecDepth 100000 in
theorem d_S_give_151 : Dc m_S_give 151 (.aload_n 2) 1 152 := ⟨by decide +kernel, rfl⟩
set_option maxRecDepth 100000 in
theorem d_S_give_152 : Dc m_S_give 152 (.iload 5) 2 154 := ⟨by decide +kernel, rfl⟩
set_option maxRecDepth 100000 in
theorem d_S_give_154 : Dc m_S_give 154 (.invokevirtual 216) 3 157 := ⟨by decide +kernel, rfl⟩
set_option maxRecDepth 100000 in
theorem d_S_give_157 : Dj m_S_give 157 .goto 160 169 := ⟨12, by decide +kernel, rfl, by decide⟩
set_option maxRecDepth 100000 in
theorem d_S_give_160 : Dc m_S_give 160 (.aload_n 0) 1 161 := ⟨by decide +kernel, rfl⟩
set_option maxRecDepth 100000 in
theorem d_S_give_161 : Dc m_S_give 161 (.getfield 12) 3 164 := ⟨by decide +kernel, rfl⟩
set_option maxRecDepth 100000 in
theorem d_S_give_164 : Dc m_S_give 164 (.iload 5) 2 166 := ⟨by decide +kernel, rfl⟩
set_option maxRecDepth 100000 in
theorem d_S_give_166 : Dc m_S_give 166 (.invokevirtual 220) 3 169 := ⟨by decide +kernel, rfl⟩
set_option maxRecDepth 100000 in
theorem d_S_give_169 : Dc m_S_give 169 (.iinc 4 (1)) 3 172 := ⟨by decide +kernel, rfl⟩
set_option maxRecDepth 100000 in
theorem d_S_give_172 : Dj m_S_give 172 .goto 175 20 := ⟨-152, by decide +kernel, rfl, by decide⟩
set_option maxRecDepth 100000 in
theorem d_S_give_175 : Dc m_S_give 175 (.iload_n 3) 1 176 := ⟨by decide +kernel, rfl⟩
set_option maxRecDepth 100000 in
theorem d_S_give_176 : Dc m_S_give 176 .ireturn 1 177 := ⟨by decide +kernel, rfl⟩
set_option maxRecDepth 100000 in
theorem d_S_item_0 : Dc m_S_item 0 (.iload_n 2) 1 1 := ⟨by decide +kernel, rfl⟩
set_option maxRecDepth 100000 in
theorem d_S_item_1 : Dc m_S_item 1 (.iconst 2) 1 2 := ⟨by decide +kernel, rfl⟩
set_option maxRecDepth 100000 in
theorem d_S_item_2 : Dc m_S_item 2 (.invokestatic 118) 3 5 := ⟨by decide +kernel, rfl⟩
set_option maxRecDepth 100000 in
theorem d_S_item_5 : Dj m_S_item 5 (.ifCond .ne) 8 10 := ⟨5, by decide +kernel, rfl, by decide⟩
set_option maxRecDepth 100000 in
theorem d_S_item_8 : Dc m_S_item 8 (.iconst (-1)) 1 9 := ⟨by decide +kernel, rfl⟩
set_option maxRecDepth 100000 in
theorem d_S_item_9 : Dc m_S_item 9 .ireturn 1 10 := ⟨by decide +kernel, rfl⟩
set_option maxRecDepth 100000 in
theorem d_S_item_10 : Dc m_S_item 10 (.iload_n 1) 1 11 := ⟨by decide +kernel, rfl⟩
set_option maxRecDepth 100000 in
theorem d_S_item_11 : Dj m_S_item 11 (.ifCond .lt) 14 28 := ⟨17, by decide +kernel, rfl, by decide⟩
set_option maxRecDepth 100000 in
theorem d_S_item_14 : Dc m_S_item 14 (.iload_n 1) 1 15 := ⟨by decide +kernel, rfl⟩
set_option maxRecDepth 100000 in
theorem d_S_item_15 : Dc m_S_item 15 (.aload_n 0) 1 16 := ⟨by decide +kernel, rfl⟩
set_option maxRecDepth 100000 in
theorem d_S_item_16 : Dc m_S_item 16 (.getfield 12) 3 19 := ⟨by decide +kernel, rfl⟩
set_option maxRecDepth 100000 in
theorem d_S_item_19 : Dc m_S_item 19 (.getfield 108) 3 22 := ⟨by decide +kernel, rfl⟩
set_option maxRecDepth 100000 in
theorem d_S_item_22 : Dc m_S_item 22 (.getfield 115) 3 25 := ⟨by decide +kernel, rfl⟩
set_option maxRecDepth 100000 in
theorem d_S_item_25 : Dj m_S_item 25 (.if_icmp .lt) 28 31 := ⟨6, by decide +kernel, rfl, by decide⟩
set_option maxRecDepth 100000 in
theorem d_S_item_28 : Dc m_S_item 28 (.bipush (-3)) 2 30 := ⟨by decide +kernel, rfl⟩
set_option maxRecDepth 100000 in
theorem d_S_item_30 : Dc m_S_item 30 .ireturn 1 31 := ⟨by decide +kernel, rfl⟩
set_option maxRecDepth 100000 in
theorem d_S_item_31 : Dc m_S_item 31 (.iload_n 2) 1 32 := ⟨by decide +kernel, rfl⟩
set_option maxRecDepth 100000 in
theorem d_S_item_32 : Lsw m_S_item 32 [(0, 60), (1, 73)] 86 := ⟨54, [(0, 28), (1, 41)], 28, by decide +kernel, by decide, by decide +kernel, by decide +kernel⟩
set_option maxRecDepth 100000 in
theorem d_S_item_60 : Dc m_S_item 60 (.aload_n 0) 1 61 := ⟨by decide +kernel, rfl⟩
set_option maxRecDepth 100000 in
theorem d_S_item_61 : Dc m_S_item 61 (.getfield 12) 3 64 := ⟨by decide +kernel, rfl⟩
set_option maxRecDepth 100000 in
theorem d_S_item_64 : Dc m_S_item 64 (.getfield 108) 3 67 := ⟨by decide +kernel, rfl⟩
set_option maxRecDepth 100000 in
theorem d_S_item_67 : Dc m_S_item 67 (.getfield 281) 3 70 := ⟨by decide +kernel, rfl⟩
set_option maxRecDepth 100000 in
theorem d_S_item_70 : Dc m_S_item 70 (.iload_n 1) 1 71 := ⟨by decide +kernel, rfl⟩
set_option maxRecDepth 100000 in
theorem d_S_item_71 : Dc m_S_item 71 .iaload 1 72 := ⟨by decide +kernel, rfl⟩
set_option maxRecDepth 100000 in
theorem d_S_item_72 : Dc m_S_item 72 .ireturn 1 73 := ⟨by decide +kernel, rfl⟩
set_option maxRecDepth 100000 in
theorem d_S_item_73 : Dc m_S_item 73 (.aload_n 0) 1 74 := ⟨by decide +kernel, rfl⟩
set_option maxRecDepth 100000 in
theorem d_S_item_74 : Dc m_S_item 74 (.getfield 12) 3 77 := ⟨by decide +kernel, rfl⟩
set_option maxRecDepth 100000 in
theorem d_S_item_77 : Dc m_S_item 77 (.getfield 108) 3 80 := ⟨by decide +kernel, rfl⟩
set_option maxRecDepth 100000 in
theorem d_S_item_80 : Dc m_S_item 80 (.getfield 278) 3 83 := ⟨by decide +kernel, rfl⟩
set_option maxRecDepth 100000 in
theorem d_S_item_83 : Dc m_S_item 83 (.iload_n 1) 1 84 := ⟨by decide +kernel, rfl⟩
set_option maxRecDepth 100000 in
theorem d_S_item_84 : Dc m_S_item 84 .iaload 1 85 := ⟨by decide +kernel, rfl⟩
set_option maxRecDepth 100000 in
theorem d_S_item_85 : Dc m_S_item 85 .ireturn 1 86 := ⟨by decide +kernel, rfl⟩
set_option maxRecDepth 100000 in
theorem d_S_item_86 : Dc m_S_item 86 (.aload_n 0) 1 87 := ⟨by decide +kernel, rfl⟩
set_option maxRecDepth 100000 in
theorem d_S_item_87 : Dc m_S_item 87 (.getfield 12) 3 90 := ⟨by decide +kernel, rfl⟩
set_option maxRecDepth 100000 in
theorem d_S_item_90 : Dc m_S_item 90 (.getfield 108) 3 93 := ⟨by decide +kernel, rfl⟩
set_option maxRecDepth 100000 in
theorem d_S_item_93 : Dc m_S_item 93 (.getfield 284) 3 96 := ⟨by decide +kernel, rfl⟩
set_option maxRecDepth 100000 in
theorem d_S_item_96 : Dc m_S_item 96 (.iload_n 1) 1 97 := ⟨by decide +kernel, rfl⟩
set_option maxRecDepth 100000 in
theorem d_S_item_97 : Dc m_S_item 97 .iaload 1 98 := ⟨by decide +kernel, rfl⟩
set_option maxRecDepth 100000 in
theorem d_S_item_98 : Dc m_S_item 98 .ireturn 1 99 := ⟨by decide +kernel, rfl⟩
set_option maxRecDepth 100000 in
theorem d_S_seed_0 : Dc m_S_seed 0 (.aload_n 0) 1 1 := ⟨by decide +kernel, rfl⟩
set_option maxRecDepth 100000 in
theorem d_S_seed_1 : Dc m_S_seed 1 (.getfield 12) 3 4 := ⟨by decide +kernel, rfl⟩
set_option maxRecDepth 100000 in
theorem d_S_seed_4 : Dc m_S_seed 4 (.getfield 290) 3 7 := ⟨by decide +kernel, rfl⟩
set_option maxRecDepth 100000 in
theorem d_S_seed_7 : Dc m_S_seed 7 (.istore_n 2) 1 8 := ⟨by decide +kernel, rfl⟩
set_option maxRecDepth 100000 in
theorem d_S_seed_8 : Dc m_S_seed 8 (.aload_n 0) 1 9 := ⟨by decide +kernel, rfl⟩
set_option maxRecDepth 100000 in
theorem d_S_seed_9 : Dc m_S_seed 9 (.getfield 12) 3 12 := ⟨by decide +kernel, rfl⟩
set_option maxRecDepth 100000 in
theorem d_S_seed_12 : Dc m_S_seed 12 (.iload_n 1) 1 13 := ⟨by decide +kernel, rfl⟩
set_option maxRecDepth 100000 in
theorem d_S_seed_13 : Dc m_S_seed 13 (.putfield 290) 3 16 := ⟨by decide +kernel, rfl⟩
set_option maxRecDepth 100000 in
theorem d_S_seed_16 : Dc m_S_seed 16 (.iload_n 2) 1 17 := ⟨by decide +kernel, rfl⟩
set_option maxRecDepth 100000 in
theorem d_S_seed_17 : Dc m_S_seed 17 .ireturn 1 18 := ⟨by decide +kernel, rfl⟩
set_option maxRecDepth 100000 in
theorem d_S_draw_0 : Dc m_S_draw 0 (.aload_n 0) 1 1 := ⟨by decide +kernel, rfl⟩
set_option maxRecDepth 100000 in
theorem d_S_draw_1 : Dc m_S_draw 1 (.getfield 12) 3 4 := ⟨by decide +kernel, rfl⟩
set_option maxRecDepth 100000 in
theorem d_S_draw_4 : Dc m_S_draw 4 (.iload_n 1) 1 5 := ⟨by decide +kernel, rfl⟩
set_option maxRecDepth 100000 in
theorem d_S_draw_5 : Dc m_S_draw 5 (.invokevirtual 127) 3 8 := ⟨by decide +kernel, rfl⟩
set_option maxRecDepth 100000 in
theorem d_S_draw_8 : Dc m_S_draw 8 (.astore_n 3) 1 9 := ⟨by decide +kernel, rfl⟩
set_option maxRecDepth 100000 in
theorem d_S_draw_9 : Dc m_S_draw 9 (.aload_n 3) 1 10 := ⟨by decide +kernel, rfl⟩
set_option maxRecDepth 100000 in
theorem d_S_draw_10 : Dj m_S_draw 10 .ifnull 13 20 := ⟨10, by decide +kernel, rfl, by decide⟩
set_option maxRecDepth 100000 in
theorem d_S_draw_13 : Dc m_S_draw 13 (.iload_n 2) 1 14 := ⟨by decide +kernel, rfl⟩
set_option maxRecDepth 100000 in
theorem d_S_draw_14 : Dc m_S_draw 14 (.invokestatic 190) 3 17 := ⟨by decide +kernel, rfl⟩
set_option maxRecDepth 100000 in
theorem d_S_draw_17 : Dj m_S_draw 17 (.ifCond .ne) 20 22 := ⟨5, by decide +kernel, rfl, by decide⟩
set_option maxRecDepth 100000 in
theorem d_S_draw_20 : Dc m_S_draw 20 (.iconst (-1)) 1 21 := ⟨by decide +kernel, rfl⟩
set_option maxRecDepth 100000 in
theorem d_S_draw_21 : Dc m_S_draw 21 .ireturn 1 22 := ⟨by decide +kernel, rfl⟩
set_option maxRecDepth 100000 in
theorem d_S_draw_22 : Dc m_S_draw 22 (.ldc2_w 234) 3 25 := ⟨by decide +kernel, rfl⟩
set_option maxRecDepth 100000 in
theorem d_S_draw_25 : Dc m_S_draw 25 (.aload_n 0) 1 26 := ⟨by decide +kernel, rfl⟩
set_option maxRecDepth 100000 in
theorem d_S_draw_26 : Dc m_S_draw 26 (.aload_n 3) 1 27 := ⟨by decide +kernel, rfl⟩
set_option maxRecDepth 100000 in
theorem d_S_draw_27 : Dc m_S_draw 27 (.iload_n 2) 1 28 := ⟨by decide +kernel, rfl⟩
set_option maxRecDepth 100000 in
theorem d_S_draw_28 : Dc m_S_draw 28 (.invokevirtual 223) 3 31 := ⟨by decide +kernel, rfl⟩
set_option maxRecDepth 100000 in
theorem d_S_draw_31 : Dc m_S_draw 31 (.ldc2_w 161) 3 34 := ⟨by decide +kernel, rfl⟩
set_option maxRecDepth 100000 in
theorem d_S_draw_34 : Dc m_S_draw 34 .lxor 1 35 := ⟨by decide +kernel, rfl⟩
set_option maxRecDepth 100000 in
theorem d_S_draw_35 : Dc m_S_draw 35 .land 1 36 := ⟨by decide +kernel, rfl⟩
set_option maxRecDepth 100000 in
theorem d_S_draw_36 : Dc m_S_draw 36 (.lstore 4) 2 38 := ⟨by decide +kernel, rfl⟩
set_option maxRecDepth 100000 in
theorem d_S_draw_38 : Dc m_S_draw 38 (.lload 4) 2 40 := ⟨by decide +kernel, rfl⟩
set_option maxRecDepth 100000 in
theorem d_S_draw_40 : Dc m_S_draw 40 (.invokestatic 240) 3 43 := ⟨by decide +kernel, rfl⟩
set_option maxRecDepth 100000 in
theorem d_S_draw_43 : Dc m_S_draw 43 (.istore 6) 2 45 := ⟨by decide +kernel, rfl⟩
set_option maxRecDepth 100000 in
theorem d_S_draw_45 : Dc m_S_draw 45 (.iload 6) 2 47 := ⟨by decide +kernel, rfl⟩
set_option maxRecDepth 100000 in
theorem d_S_draw_47 : Dj m_S_draw 47 (.ifCond .ne) 50 53 := ⟨6, by decide +kernel, rfl, by decide⟩
set_option maxRecDepth 100000 in
theorem d_S_draw_50 : Dc m_S_draw 50 (.bipush (-3)) 2 52 := ⟨by decide +kernel, rfl⟩
set_option maxRecDepth 100000 in
theorem d_S_draw_52 : Dc m_S_draw 52 .ireturn 1 53 := ⟨by decide +kernel, rfl⟩
set_option maxRecDepth 100000 in
theorem d_S_draw_53 : Dc m_S_draw 53 (.aload_n 0) 1 54 := ⟨by decide +kernel, rfl⟩
set_option maxRecDepth 100000 in
theorem d_S_draw_54 : Dc m_S_draw 54 (.getfield 12) 3 57 := ⟨by decide +kernel, rfl⟩
set_option maxRecDepth 100000 in
theorem d_S_draw_57 : Dc m_S_draw 57 (.aload_n 0) 1 58 := ⟨by decide +kernel, rfl⟩
set_option maxRecDepth 100000 in
theorem d_S_draw_58 : Dc m_S_draw 58 (.getfield 12) 3 61 := ⟨by decide +kernel, rfl⟩
set_option maxRecDepth 100000 in
theorem d_S_draw_61 : Dc m_S_draw 61 (.getfield 290) 3 64 := ⟨by decide +kernel, rfl⟩
set_option maxRecDepth 100000 in
theorem d_S_draw_64 : Dc m_S_draw 64 (.ldc_w 293) 3 67 := ⟨by decide +kernel, rfl⟩
set_option maxRecDepth 100000 in
theorem d_S_draw_67 : Dc m_S_draw 67 .imul 1 68 := ⟨by decide +kernel, rfl⟩
set_option maxRecDepth 100000 in
theorem d_S_draw_68 : Dc m_S_draw 68 (.sipush (12345)) 3 71 := ⟨by decide +kernel, rfl⟩
set_option maxRecDepth 100000 in
theorem d_S_draw_71 : Dc m_S_draw 71 .iadd 1 72 := ⟨by decide +kernel, rfl⟩
set_option maxRecDepth 100000 in
theorem d_S_draw_72 : Dc m_S_draw 72 (.putfield 290) 3 75 := ⟨by decide +kernel, rfl⟩
set_option maxRecDepth 100000 in
theorem d_S_draw_75 : Dc m_S_draw 75 (.lload 4) 2 77 := ⟨by decide +kernel, rfl⟩
set_option maxRecDepth 100000 in
theorem d_S_draw_77 : Dc m_S_draw 77 (.aload_n 0) 1 78 := ⟨by decide +kernel, rfl⟩
set_option maxRecDepth 100000 in
theorem d_S_draw_78 : Dc m_S_draw 78 (.getfield 12) 3 81 := ⟨by decide +kernel, rfl⟩
set_option maxRecDepth 100000 in
theorem d_S_draw_81 : Dc m_S_draw 81 (.getfield 290) 3 84 := ⟨by decide +kernel, rfl⟩
set_option maxRecDepth 100000 in
theorem d_S_draw_84 : Dc m_S_draw 84 (.bipush (16)) 2 86 := ⟨by decide +kernel, rfl⟩
set_option maxRecDepth 100000 in
theorem d_S_draw_86 : Dc m_S_draw 86 .iushr 1 87 := ⟨by decide +kernel, rfl⟩
set_option maxRecDepth 100000 in
theorem d_S_draw_87 : Dc m_S_draw 87 (.iload 6) 2 89 := ⟨by decide +kernel, rfl⟩
set_option maxRecDepth 100000 in
theorem d_S_draw_89 : Dc m_S_draw 89 .irem 1 90 := ⟨by decide +kernel, rfl⟩
set_option maxRecDepth 100000 in
theorem d_S_draw_90 : Dc m_S_draw 90 (.invokestatic 294) 3 93 := ⟨by decide +kernel, rfl⟩
set_option maxRecDepth 100000 in
theorem d_S_draw_93 : Dc m_S_draw 93 .ireturn 1 94 := ⟨by decide +kernel, rfl⟩
set_option maxRecDepth 100000 in
theorem d_S_prove_0 : Dc m_S_prove 0 (.aload_n 0) 1 1 := ⟨by decide +kernel, rfl⟩
set_option maxRecDepth 100000 in
theorem d_S_prove_1 : Dc m_S_prove 1 (.getfield 12) 3 4 := ⟨by decide +kernel, rfl⟩
set_option maxRecDepth 100000 in
theorem d_S_prove_4 : Dc m_S_prove 4 (.iload_n 1) 1 5 := ⟨by decide +kernel, rfl⟩
set_option maxRecDepth 100000 in
theorem d_S_prove_5 : Dc m_S_prove 5 (.invokevirtual 127) 3 8 := ⟨by decide +kernel, rfl⟩
set_option maxRecDepth 100000 in
theorem d_S_prove_8 : Dc m_S_prove 8 (.astore_n 2) 1 9 := ⟨by decide +kernel, rfl⟩
set_option maxRecDepth 100000 in
theorem d_S_prove_9 : Dc m_S_prove 9 (.aload_n 2) 1 10 := ⟨by decide +kernel, rfl⟩
set_option maxRecDepth 100000 in
theorem d_S_prove_10 : Dj m_S_prove 10 .ifnonnull 13 15 := ⟨5, by decide +kernel, rfl, by decide⟩
set_option maxRecDepth 100000 in
theorem d_S_prove_13 : Dc m_S_prove 13 (.iconst (-1)) 1 14 := ⟨by decide +kernel, rfl⟩
set_option maxRecDepth 100000 in
theorem d_S_prove_14 : Dc m_S_prove 14 .ireturn 1 15 := ⟨by decide +kernel, rfl⟩
set_option maxRecDepth 100000 in
theorem d_S_prove_15 : Dc m_S_prove 15 (.aload_n 0) 1 16 := ⟨by decide +kernel, rfl⟩
set_option maxRecDepth 100000 in
theorem d_S_prove_16 : Dc m_S_prove 16 (.aload_n 0) 1 17 := ⟨by decide +kernel, rfl⟩
set_option maxRecDepth 100000 in
theorem d_S_prove_17 : Dc m_S_prove 17 (.getfield 65) 3 20 := ⟨by decide +kernel, rfl⟩
set_option maxRecDepth 100000 in
theorem d_S_prove_20 : Dc m_S_prove 20 (.aload_n 2) 1 21 := ⟨by decide +kernel, rfl⟩
set_option maxRecDepth 100000 in
theorem d_S_prove_21 : Dc m_S_prove 21 (.invokevirtual 298) 3 24 := ⟨by decide +kernel, rfl⟩
set_option maxRecDepth 100000 in
theorem d_S_prove_24 : Dc m_S_prove 24 (.aload_n 0) 1 25 := ⟨by decide +kernel, rfl⟩
set_option maxRecDepth 100000 in
theorem d_S_prove_25 : Dc m_S_prove 25 (.getfield 65) 3 28 := ⟨by decide +kernel, rfl⟩
set_option maxRecDepth 100000 in
theorem d_S_prove_28 : Dc m_S_prove 28 (.getfield 302) 3 31 := ⟨by decide +kernel, rfl⟩
set_option maxRecDepth 100000 in
theorem d_S_prove_31 : Dc m_S_prove 31 .ireturn 1 32 := ⟨by decide +kernel, rfl⟩
set_option maxRecDepth 100000 in
theorem d_S_row_0 : Dc m_S_row 0 (.aload_n 0) 1 1 := ⟨by decide +kernel, rfl⟩
set_option maxRecDepth 100000 in
theorem d_S_row_1 : Dc m_S_row 1 (.getfield 65) 3 4 := ⟨by decide +kernel, rfl⟩
set_option maxRecDepth 100000 in
theorem d_S_row_4 : Dc m_S_row 4 (.iload_n 1) 1 5 := ⟨by decide +kernel, rfl⟩
set_option maxRecDepth 100000 in
theorem d_S_row_5 : Dc m_S_row 5 (.iload_n 2) 1 6 := ⟨by decide +kernel, rfl⟩
set_option maxRecDepth 100000 in
theorem d_S_row_6 : Dc m_S_row 6 (.invokevirtual 303) 3 9 := ⟨by decide +kernel, rfl⟩
set_option maxRecDepth 100000 in
theorem d_S_row_9 : Dc m_S_row 9 (.istore_n 3) 1 10 := ⟨by decide +kernel, rfl⟩
set_option maxRecDepth 100000 in
theorem d_S_row_10 : Dc m_S_row 10 (.iload_n 3) 1 11 := ⟨by decide +kernel, rfl⟩
set_option maxRecDepth 100000 in
theorem d_S_row_11 : Dj m_S_row 11 (.ifCond .ge) 14 19 := ⟨8, by decide +kernel, rfl, by decide⟩
set_option maxRecDepth 100000 in
theorem d_S_row_14 : Dc m_S_row 14 (.bipush (-99)) 2 16 := ⟨by decide +kernel, rfl⟩
set_option maxRecDepth 100000 in
theorem d_S_row_16 : Dj m_S_row 16 .goto 19 28 := ⟨12, by decide +kernel, rfl, by decide⟩
set_option maxRecDepth 100000 in
theorem d_S_row_19 : Dc m_S_row 19 (.aload_n 0) 1 20 := ⟨by decide +kernel, rfl⟩
set_option maxRecDepth 100000 in
theorem d_S_row_20 : Dc m_S_row 20 (.getfield 65) 3 23 := ⟨by decide +kernel, rfl⟩
set_option maxRecDepth 100000 in
theorem d_S_row_23 : Dc m_S_row 23 (.getfield 306) 3 26 := ⟨by decide +kernel, rfl⟩
set_option maxRecDepth 100000 in
theorem d_S_row_26 : Dc m_S_row 26 (.iload_n 3) 1 27 := ⟨by decide +kernel, rfl⟩
set_option maxRecDepth 100000 in
theorem d_S_row_27 : Dc m_S_row 27 .iaload 1 28 := ⟨by decide +kernel, rfl⟩
set_option maxRecDepth 100000 in
theorem d_S_row_28 : Dc m_S_row 28 .ireturn 1 29 := ⟨by decide +kernel, rfl⟩
set_option maxRecDepth 100000 in
theorem d_S_alterRow_0 : Dc m_S_alterRow 0 (.aload_n 0) 1 1 := ⟨by decide +kernel, rfl⟩
set_option maxRecDepth 100000 in
theorem d_S_alterRow_1 : Dc m_S_alterRow 1 (.getfield 65) 3 4 := ⟨by decide +kernel, rfl⟩
set_option maxRecDepth 100000 in
theorem d_S_alterRow_4 : Dc m_S_alterRow 4 (.iload_n 1) 1 5 := ⟨by decide +kernel, rfl⟩
set_option maxRecDepth 100000 in
theorem d_S_alterRow_5 : Dc m_S_alterRow 5 (.iload_n 2) 1 6 := ⟨by decide +kernel, rfl⟩
set_option maxRecDepth 100000 in
theorem d_S_alterRow_6 : Dc m_S_alterRow 6 (.invokevirtual 303) 3 9 := ⟨by decide +kernel, rfl⟩
set_option maxRecDepth 100000 in
theorem d_S_alterRow_9 : Dc m_S_alterRow 9 (.istore 4) 2 11 := ⟨by decide +kernel, rfl⟩
set_option maxRecDepth 100000 in
theorem d_S_alterRow_11 : Dc m_S_alterRow 11 (.iload 4) 2 13 := ⟨by decide +kernel, rfl⟩
set_option maxRecDepth 100000 in
theorem d_S_alterRow_13 : Dj m_S_alterRow 13 (.ifCond .ge) 16 19 := ⟨6, by decide +kernel, rfl, by decide⟩
set_option maxRecDepth 100000 in
theorem d_S_alterRow_16 : Dc m_S_alterRow 16 (.bipush (-99)) 2 18 := ⟨by decide +kernel, rfl⟩
set_option maxRecDepth 100000 in
theorem d_S_alterRow_18 : Dc m_S_alterRow 18 .ireturn 1 19 := ⟨by decide +kernel, rfl⟩
set_option maxRecDepth 100000 in
theorem d_S_alterRow_19 : Dc m_S_alterRow 19 (.aload_n 0) 1 20 := ⟨by decide +kernel, rfl⟩
set_option maxRecDepth 100000 in
theorem d_S_alterRow_20 : Dc m_S_alterRow 20 (.getfield 65) 3 23 := ⟨by decide +kernel, rfl⟩
set_option maxRecDepth 100000 in
theorem d_S_alterRow_23 : Dc m_S_alterRow 23 (.getfield 306) 3 26 := ⟨by decide +kernel, rfl⟩
set_option maxRecDepth 100000 in
theorem d_S_alterRow_26 : Dc m_S_alterRow 26 (.iload 4) 2 28 := ⟨by decide +kernel, rfl⟩
set_option maxRecDepth 100000 in
theorem d_S_alterRow_28 : Dc m_S_alterRow 28 .iaload 1 29 := ⟨by decide +kernel, rfl⟩
set_option maxRecDepth 100000 in
theorem d_S_alterRow_29 : Dc m_S_alterRow 29 (.istore 5) 2 31 := ⟨by decide +kernel, rfl⟩
set_option maxRecDepth 100000 in
theorem d_S_alterRow_31 : Dc m_S_alterRow 31 (.aload_n 0) 1 32 := ⟨by decide +kernel, rfl⟩
set_option maxRecDepth 100000 in
theorem d_S_alterRow_32 : Dc m_S_alterRow 32 (.getfield 65) 3 35 := ⟨by decide +kernel, rfl⟩
set_option maxRecDepth 100000 in
theorem d_S_alterRow_35 : Dc m_S_alterRow 35 (.getfield 306) 3 38 := ⟨by decide +kernel, rfl⟩
set_option maxRecDepth 100000 in
theorem d_S_alterRow_38 : Dc m_S_alterRow 38 (.iload 4) 2 40 := ⟨by decide +kernel, rfl⟩
set_option maxRecDepth 100000 in
theorem d_S_alterRow_40 : Dc m_S_alterRow 40 (.iload_n 3) 1 41 := ⟨by decide +kernel, rfl⟩
set_option maxRecDepth 100000 in
theorem d_S_alterRow_41 : Dc m_S_alterRow 41 .iastore 1 42 := ⟨by decide +kernel, rfl⟩
set_option maxRecDepth 100000 in
theorem d_S_alterRow_42 : Dc m_S_alterRow 42 (.iload 5) 2 44 := ⟨by decide +kernel, rfl⟩
set_option maxRecDepth 100000 in
theorem d_S_alterRow_44 : Dc m_S_alterRow 44 .ireturn 1 45 := ⟨by decide +kernel, rfl⟩
set_option maxRecDepth 100000 in
theorem d_S_judge_0 : Dc m_S_judge 0 (.aload_n 0) 1 1 := ⟨by decide +kernel, rfl⟩
set_option maxRecDepth 100000 in
theorem d_S_judge_1 : Dc m_S_judge 1 (.getfield 12) 3 4 := ⟨by decide +kernel, rfl⟩
set_option maxRecDepth 100000 in
theorem d_S_judge_4 : Dc m_S_judge 4 (.iload_n 1) 1 5 := ⟨by decide +kernel, rfl⟩
set_option maxRecDepth 100000 in
theorem d_S_judge_5 : Dc m_S_judge 5 (.invokevirtual 127) 3 8 := ⟨by decide +kernel, rfl⟩
set_option maxRecDepth 100000 in
theorem d_S_judge_8 : Dc m_S_judge 8 (.astore_n 2) 1 9 := ⟨by decide +kernel, rfl⟩
set_option maxRecDepth 100000 in
theorem d_S_judge_9 : Dc m_S_judge 9 (.aload_n 2) 1 10 := ⟨by decide +kernel, rfl⟩
set_option maxRecDepth 100000 in
theorem d_S_judge_10 : Dj m_S_judge 10 .ifnonnull 13 15 := ⟨5, by decide +kernel, rfl, by decide⟩
set_option maxRecDepth 100000 in
theorem d_S_judge_13 : Dc m_S_judge 13 (.iconst (-1)) 1 14 := ⟨by decide +kernel, rfl⟩
set_option maxRecDepth 100000 in
theorem d_S_judge_14 : Dc m_S_judge 14 .ireturn 1 15 := ⟨by decide +kernel, rfl⟩
set_option maxRecDepth 100000 in
theorem d_S_judge_15 : Dc m_S_judge 15 (.aload_n 0) 1 16 := ⟨by decide +kernel, rfl⟩
set_option maxRecDepth 100000 in
theorem d_S_judge_16 : Dc m_S_judge 16 (.aload_n 0) 1 17 := ⟨by decide +kernel, rfl⟩
set_option maxRecDepth 100000 in
theorem d_S_judge_17 : Dc m_S_judge 17 (.getfield 69) 3 20 := ⟨by decide +kernel, rfl⟩
set_option maxRecDepth 100000 in
theorem d_S_judge_20 : Dc m_S_judge 20 (.aload_n 2) 1 21 := ⟨by decide +kernel, rfl⟩
set_option maxRecDepth 100000 in
theorem d_S_judge_21 : Dc m_S_judge 21 (.invokevirtual 298) 3 24 := ⟨by decide +kernel, rfl⟩
set_option maxRecDepth 100000 in
theorem d_S_judge_24 : Dc m_S_judge 24 (.iconst 0) 1 25 := ⟨by decide +kernel, rfl⟩
set_option maxRecDepth 100000 in
theorem d_S_judge_25 : Dc m_S_judge 25 (.istore_n 3) 1 26 := ⟨by decide +kernel, rfl⟩
set_option maxRecDepth 100000 in
theorem d_S_judge_26 : Dc m_S_judge 26 (.iload_n 3) 1 27 := ⟨by decide +kernel, rfl⟩
set_option maxRecDepth 100000 in
theorem d_S_judge_27 : Dc m_S_judge 27 (.aload_n 0) 1 28 := ⟨by decide +kernel, rfl⟩
set_option maxRecDepth 100000 in
theorem d_S_judge_28 : Dc m_S_judge 28 (.getfield 65) 3 31 := ⟨by decide +kernel, rfl⟩
set_option maxRecDepth 100000 in
theorem d_S_judge_31 : Dc m_S_judge 31 (.getfield 302) 3 34 := ⟨by decide +kernel, rfl⟩
set_option maxRecDepth 100000 in
theorem d_S_judge_34 : Dj m_S_judge 34 (.if_icmp .ge) 37 62 := ⟨28, by decide +kernel, rfl, by decide⟩
set_option maxRecDepth 100000 in
theorem d_S_judge_37 : Dc m_S_judge 37 (.aload_n 0) 1 38 := ⟨by decide +kernel, rfl⟩
set_option maxRecDepth 100000 in
theorem d_S_judge_38 : Dc m_S_judge 38 (.getfield 65) 3 41 := ⟨by decide +kernel, rfl⟩
set_option maxRecDepth 100000 in
theorem d_S_judge_41 : Dc m_S_judge 41 (.iload_n 3) 1 42 := ⟨by decide +kernel, rfl⟩
set_option maxRecDepth 100000 in
theorem d_S_judge_42 : Dc m_S_judge 42 (.aload_n 0) 1 43 := ⟨by decide +kernel, rfl⟩
set_option maxRecDepth 100000 in
theorem d_S_judge_43 : Dc m_S_judge 43 (.getfield 69) 3 46 := ⟨by decide +kernel, rfl⟩
set_option maxRecDepth 100000 in
theorem d_S_judge_46 : Dc m_S_judge 46 (.invokevirtual 309) 3 49 := ⟨by decide +kernel, rfl⟩
set_option maxRecDepth 100000 in
theorem d_S_judge_49 : Dj m_S_judge 49 (.ifCond .ne) 52 56 := ⟨7, by decide +kernel, rfl, by decide⟩
set_option maxRecDepth 100000 in
theorem d_S_judge_52 : Dc m_S_judge 52 (.iload_n 3) 1 53 := ⟨by decide +kernel, rfl⟩
set_option maxRecDepth 100000 in
theorem d_S_judge_53 : Dc m_S_judge 53 (.iconst 1) 1 54 := ⟨by decide +kernel, rfl⟩
set_option maxRecDepth 100000 in
theorem d_S_judge_54 : Dc m_S_judge 54 .iadd 1 55 := ⟨by decide +kernel, rfl⟩
set_option maxRecDepth 100000 in
theorem d_S_judge_55 : Dc m_S_judge 55 .ireturn 1 56 := ⟨by decide +kernel, rfl⟩
set_option maxRecDepth 100000 in
theorem d_S_judge_56 : Dc m_S_judge 56 (.iinc 3 (1)) 3 59 := ⟨by decide +kernel, rfl⟩
set_option maxRecDepth 100000 in
theorem d_S_judge_59 : Dj m_S_judge 59 .goto 62 26 := ⟨-33, by decide +kernel, rfl, by decide⟩
set_option maxRecDepth 100000 in
theorem d_S_judge_62 : Dc m_S_judge 62 (.aload_n 0) 1 63 := ⟨by decide +kernel, rfl⟩
set_option maxRecDepth 100000 in
theorem d_S_judge_63 : Dc m_S_judge 63 (.getfield 65) 3 66 := ⟨by decide +kernel, rfl⟩
set_option maxRecDepth 100000 in
theorem d_S_judge_66 : Dc m_S_judge 66 (.getfield 302) 3 69 := ⟨by decide +kernel, rfl⟩
set_option maxRecDepth 100000 in
theorem d_S_judge_69 : Dc m_S_judge 69 (.aload_n 0) 1 70 := ⟨by decide +kernel, rfl⟩
set_option maxRecDepth 100000 in
theorem d_S_judge_70 : Dc m_S_judge 70 (.getfield 69) 3 73 := ⟨by decide +kernel, rfl⟩
set_option maxRecDepth 100000 in
theorem d_S_judge_73 : Dc m_S_judge 73 (.getfield 302) 3 76 := ⟨by decide +kernel, rfl⟩
set_option maxRecDepth 100000 in
theorem d_S_judge_76 : Dj m_S_judge 76 (.if_icmp .ge) 79 85 := ⟨9, by decide +kernel, rfl, by decide⟩
set_option maxRecDepth 100000 in
theorem d_S_judge_79 : Dc m_S_judge 79 (.sipush (222)) 3 82 := ⟨by decide +kernel, rfl⟩
set_option maxRecDepth 100000 in
theorem d_S_judge_82 : Dj m_S_judge 82 .goto 85 86 := ⟨4, by decide +kernel, rfl, by decide⟩
set_option maxRecDepth 100000 in
theorem d_S_judge_85 : Dc m_S_judge 85 (.iconst 0) 1 86 := ⟨by decide +kernel, rfl⟩
set_option maxRecDepth 100000 in
theorem d_S_judge_86 : Dc m_S_judge 86 .ireturn 1 87 := ⟨by decide +kernel, rfl⟩
set_option maxRecDepth 100000 in
theorem d_S_firms_0 : Dc m_S_firms 0 (.aload_n 0) 1 1 := ⟨by decide +kernel, rfl⟩
set_option maxRecDepth 100000 in
theorem d_S_firms_1 : Dc m_S_firms 1 (.getfield 12) 3 4 := ⟨by decide +kernel, rfl⟩
set_option maxRecDepth 100000 in
theorem d_S_firms_4 : Dc m_S_firms 4 (.iload_n 3) 1 5 := ⟨by decide +kernel, rfl⟩
set_option maxRecDepth 100000 in
theorem d_S_firms_5 : Dc m_S_firms 5 (.invokevirtual 127) 3 8 := ⟨by decide +kernel, rfl⟩
set_option maxRecDepth 100000 in
theorem d_S_firms_8 : Dc m_S_firms 8 (.astore 6) 2 10 := ⟨by decide +kernel, rfl⟩
set_option maxRecDepth 100000 in
theorem d_S_firms_10 : Dc m_S_firms 10 (.iload_n 1) 1 11 := ⟨by decide +kernel, rfl⟩
set_option maxRecDepth 100000 in
theorem d_S_firms_11 : Dc m_S_firms 11 (.invokestatic 313) 3 14 := ⟨by decide +kernel, rfl⟩
set_option maxRecDepth 100000 in
theorem d_S_firms_14 : Dj m_S_firms 14 (.ifCond .eq) 17 30 := ⟨16, by decide +kernel, rfl, by decide⟩
set_option maxRecDepth 100000 in
theorem d_S_firms_17 : Dc m_S_firms 17 (.aload 6) 2 19 := ⟨by decide +kernel, rfl⟩
set_option maxRecDepth 100000 in
theorem d_S_firms_19 : Dj m_S_firms 19 .ifnull 22 30 := ⟨11, by decide +kernel, rfl, by decide⟩
set_option maxRecDepth 100000 in
theorem d_S_firms_22 : Dc m_S_firms 22 (.iload 4) 2 24 := ⟨by decide +kernel, rfl⟩
set_option maxRecDepth 100000 in
theorem d_S_firms_24 : Dc m_S_firms 24 (.invokestatic 144) 3 27 := ⟨by decide +kernel, rfl⟩
set_option maxRecDepth 100000 in
theorem d_S_firms_27 : Dj m_S_firms 27 (.ifCond .ne) 30 32 := ⟨5, by decide +kernel, rfl, by decide⟩
set_option maxRecDepth 100000 in
theorem d_S_firms_30 : Dc m_S_firms 30 (.iconst (-1)) 1 31 := ⟨by decide +kernel, rfl⟩
set_option maxRecDepth 100000 in
theorem d_S_firms_31 : Dc m_S_firms 31 .ireturn 1 32 := ⟨by decide +kernel, rfl⟩
set_option maxRecDepth 100000 in
theorem d_S_firms_32 : Dc m_S_firms 32 (.iload 5) 2 34 := ⟨by decide +kernel, rfl⟩
set_option maxRecDepth 100000 in
theorem d_S_firms_34 : Dc m_S_firms 34 (.bipush (36)) 2 36 := ⟨by decide +kernel, rfl⟩
set_option maxRecDepth 100000 in
theorem d_S_firms_36 : Dc m_S_firms 36 (.iload 4) 2 38 := ⟨by decide +kernel, rfl⟩
set_option maxRecDepth 100000 in
theorem d_S_firms_38 : Dc m_S_firms 38 .isub 1 39 := ⟨by decide +kernel, rfl⟩
set_option maxRecDepth 100000 in
theorem d_S_firms_39 : Dc m_S_firms 39 (.invokestatic 118) 3 42 := ⟨by decide +kernel, rfl⟩
set_option maxRecDepth 100000 in
theorem d_S_firms_42 : Dj m_S_firms 42 (.ifCond .ne) 45 47 := ⟨5, by decide +kernel, rfl, by decide⟩
set_option maxRecDepth 100000 in
theorem d_S_firms_45 : Dc m_S_firms 45 (.iconst (-1)) 1 46 := ⟨by decide +kernel, rfl⟩
set_option maxRecDepth 100000 in
theorem d_S_firms_46 : Dc m_S_firms 46 .ireturn 1 47 := ⟨by decide +kernel, rfl⟩
set_option maxRecDepth 100000 in
theorem d_S_firms_47 : Dc m_S_firms 47 (.aload_n 0) 1 48 := ⟨by decide +kernel, rfl⟩
set_option maxRecDepth 100000 in
theorem d_S_firms_48 : Dc m_S_firms 48 (.getfield 74) 3 51 := ⟨by decide +kernel, rfl⟩
set_option maxRecDepth 100000 in
theorem d_S_firms_51 : Dc m_S_firms 51 (.iload_n 1) 1 52 := ⟨by decide +kernel, rfl⟩
set_option maxRecDepth 100000 in
theorem d_S_firms_52 : Dc m_S_firms 52 .aaload 1 53 := ⟨by decide +kernel, rfl⟩
set_option maxRecDepth 100000 in
theorem d_S_firms_53 : Dc m_S_firms 53 (.astore 7) 2 55 := ⟨by decide +kernel, rfl⟩
set_option maxRecDepth 100000 in
theorem d_S_firms_55 : Dc m_S_firms 55 (.aload 7) 2 57 := ⟨by decide +kernel, rfl⟩
set_option maxRecDepth 100000 in
theorem d_S_firms_57 : Dc m_S_firms 57 (.invokevirtual 316) 3 60 := ⟨by decide +kernel, rfl⟩
set_option maxRecDepth 100000 in
theorem d_S_firms_60 : Dj m_S_firms 60 (.ifCond .eq) 63 66 := ⟨6, by decide +kernel, rfl, by decide⟩
set_option maxRecDepth 100000 in
theorem d_S_firms_63 : Dc m_S_firms 63 (.bipush (-11)) 2 65 := ⟨by decide +kernel, rfl⟩
set_option maxRecDepth 100000 in
theorem d_S_firms_65 : Dc m_S_firms 65 .ireturn 1 66 := ⟨by decide +kernel, rfl⟩
set_option maxRecDepth 100000 in
theorem d_S_firms_66 : Dc m_S_firms 66 (.aload 7) 2 68 := ⟨by decide +kernel, rfl⟩
set_option maxRecDepth 100000 in
theorem d_S_firms_68 : Dc m_S_firms 68 (.getfield 319) 3 71 := ⟨by decide +kernel, rfl⟩
set_option maxRecDepth 100000 in
theorem d_S_firms_71 : Dj m_S_firms 71 (.ifCond .eq) 74 77 := ⟨6, by decide +kernel, rfl, by decide⟩
set_option maxRecDepth 100000 in
theorem d_S_firms_74 : Dc m_S_firms 74 (.bipush (-13)) 2 76 := ⟨by decide +kernel, rfl⟩
set_option maxRecDepth 100000 in
theorem d_S_firms_76 : Dc m_S_firms 76 .ireturn 1 77 := ⟨by decide +kernel, rfl⟩
set_option maxRecDepth 100000 in
theorem d_S_firms_77 : Dc m_S_firms 77 (.iload_n 2) 1 78 := ⟨by decide +kernel, rfl⟩
set_option maxRecDepth 100000 in
theorem d_S_firms_78 : Dj m_S_firms 78 (.ifCond .lt) 81 102 := ⟨24, by decide +kernel, rfl, by decide⟩
set_option maxRecDepth 100000 in
theorem d_S_firms_81 : Dc m_S_firms 81 (.iload_n 2) 1 82 := ⟨by decide +kernel, rfl⟩
set_option maxRecDepth 100000 in
theorem d_S_firms_82 : Dc m_S_firms 82 (.aload 7) 2 84 := ⟨by decide +kernel, rfl⟩
set_option maxRecDepth 100000 in
theorem d_S_firms_84 : Dc m_S_firms 84 (.getfield 322) 3 87 := ⟨by decide +kernel, rfl⟩
set_option maxRecDepth 100000 in
theorem d_S_firms_87 : Dj m_S_firms 87 (.if_icmp .gt) 90 102 := ⟨15, by decide +kernel, rfl, by decide⟩
set_option maxRecDepth 100000 in
theorem d_S_firms_90 : Dc m_S_firms 90 (.iload 5) 2 92 := ⟨by decide +kernel, rfl⟩
set_option maxRecDepth 100000 in
theorem d_S_firms_92 : Dc m_S_firms 92 (.aload 7) 2 94 := ⟨by decide +kernel, rfl⟩
set_option maxRecDepth 100000 in
theorem d_S_firms_94 : Dc m_S_firms 94 (.getfield 322) 3 97 := ⟨by decide +kernel, rfl⟩
set_option maxRecDepth 100000 in
theorem d_S_firms_97 : Dc m_S_firms 97 (.iload_n 2) 1 98 := ⟨by decide +kernel, rfl⟩
set_option maxRecDepth 100000 in
theorem d_S_firms_98 : Dc m_S_firms 98 .isub 1 99 := ⟨by decide +kernel, rfl⟩
set_option maxRecDepth 100000 in
theorem d_S_firms_99 : Dj m_S_firms 99 (.if_icmp .le) 102 105 := ⟨6, by decide +kernel, rfl, by decide⟩
set_option maxRecDepth 100000 in
theorem d_S_firms_102 : Dc m_S_firms 102 (.bipush (-12)) 2 104 := ⟨by decide +kernel, rfl⟩
set_option maxRecDepth 100000 in
theorem d_S_firms_104 : Dc m_S_firms 104 .ireturn 1 105 := ⟨by decide +kernel, rfl⟩
set_option maxRecDepth 100000 in
theorem d_S_firms_105 : Dc m_S_firms 105 (.iconst 0) 1 106 := ⟨by decide +kernel, rfl⟩
set_option maxRecDepth 100000 in
theorem d_S_firms_106 : Dc m_S_firms 106 (.istore 8) 2 108 := ⟨by decide +kernel, rfl⟩
set_option maxRecDepth 100000 in
theorem d_S_firms_108 : Dc m_S_firms 108 (.iload 8) 2 110 := ⟨by decide +kernel, rfl⟩
set_option maxRecDepth 100000 in
theorem d_S_firms_110 : Dc m_S_firms 110 (.iload 5) 2 112 := ⟨by decide +kernel, rfl⟩
set_option maxRecDepth 100000 in
theorem d_S_firms_112 : Dj m_S_firms 112 (.if_icmp .ge) 115 156 := ⟨44, by decide +kernel, rfl, by decide⟩
set_option maxRecDepth 100000 in
theorem d_S_firms_115 : Dc m_S_firms 115 (.aload 7) 2 117 := ⟨by decide +kernel, rfl⟩
set_option maxRecDepth 100000 in
theorem d_S_firms_117 : Dc m_S_firms 117 (.getfield 323) 3 120 := ⟨by decide +kernel, rfl⟩
set_option maxRecDepth 100000 in
theorem d_S_firms_120 : Dc m_S_firms 120 (.iload_n 2) 1 121 := ⟨by decide +kernel, rfl⟩
set_option maxRecDepth 100000 in
theorem d_S_firms_121 : Dc m_S_firms 121 (.iload 8) 2 123 := ⟨by decide +kernel, rfl⟩
set_option maxRecDepth 100000 in
theorem d_S_firms_123 : Dc m_S_firms 123 .iadd 1 124 := ⟨by decide +kernel, rfl⟩
set_option maxRecDepth 100000 in
theorem d_S_firms_124 : Dc m_S_firms 124 .laload 1 125 := ⟨by decide +kernel, rfl⟩
set_option maxRecDepth 100000 in
theorem d_S_firms_125 : Dc m_S_firms 125 .l2i 1 126 := ⟨by decide +kernel, rfl⟩
set_option maxRecDepth 100000 in
theorem d_S_firms_126 : Dc m_S_firms 126 (.istore 9) 2 128 := ⟨by decide +kernel, rfl⟩
set_option maxRecDepth 100000 in
theorem d_S_firms_128 : Dc m_S_firms 128 (.aload 6) 2 130 := ⟨by decide +kernel, rfl⟩
set_option maxRecDepth 100000 in
theorem d_S_firms_130 : Dc m_S_firms 130 (.getfield 166) 3 133 := ⟨by decide +kernel, rfl⟩
set_option maxRecDepth 100000 in
theorem d_S_firms_133 : Dc m_S_firms 133 (.iload 4) 2 135 := ⟨by decide +kernel, rfl⟩
set_option maxRecDepth 100000 in
theorem d_S_firms_135 : Dc m_S_firms 135 (.iload 8) 2 137 := ⟨by decide +kernel, rfl⟩
set_option maxRecDepth 100000 in
theorem d_S_firms_137 : Dc m_S_firms 137 .iadd 1 138 := ⟨by decide +kernel, rfl⟩
set_option maxRecDepth 100000 in
theorem d_S_firms_138 : Dc m_S_firms 138 (.iconst 0) 1 139 := ⟨by decide +kernel, rfl⟩
set_option maxRecDepth 100000 in
theorem d_S_firms_139 : Dc m_S_firms 139 (.bipush (100)) 2 141 := ⟨by decide +kernel, rfl⟩
set_option maxRecDepth 100000 in
theorem d_S_firms_141 : Dc m_S_firms 141 (.iload 9) 2 143 := ⟨by decide +kernel, rfl⟩
set_option maxRecDepth 100000 in
theorem d_S_firms_143 : Dc m_S_firms 143 (.invokestatic 327) 3 146 := ⟨by decide +kernel, rfl⟩
set_option maxRecDepth 100000 in
theorem d_S_firms_146 : Dc m_S_firms 146 (.invokestatic 332) 3 149 := ⟨by decide +kernel, rfl⟩
set_option maxRecDepth 100000 in
theorem d_S_firms_149 : Dc m_S_firms 149 .iastore 1 150 := ⟨by decide +kernel, rfl⟩
set_option maxRecDepth 100000 in
theorem d_S_firms_150 : Dc m_S_firms 150 (.iinc 8 (1)) 3 153 := ⟨by decide +kernel, rfl⟩
set_option maxRecDepth 100000 in
theorem d_S_firms_153 : Dj m_S_firms 153 .goto 156 108 := ⟨-45, by decide +kernel, rfl, by decide⟩
set_option maxRecDepth 100000 in
theorem d_S_firms_156 : Dc m_S_firms 156 (.iload 5) 2 158 := ⟨by decide +kernel, rfl⟩
set_option maxRecDepth 100000 in
theorem d_S_firms_158 : Dc m_S_firms 158 .ireturn 1 159 := ⟨by decide +kernel, rfl⟩
set_option maxRecDepth 100000 in
theorem d_S_sheet_0 : Dc m_S_sheet 0 (.iload_n 1) 1 1 := ⟨by decide +kernel, rfl⟩
set_option maxRecDepth 100000 in
theorem d_S_sheet_1 : Dc m_S_sheet 1 (.invokestatic 313) 3 4 := ⟨by decide +kernel, rfl⟩
set_option maxRecDepth 100000 in
theorem d_S_sheet_4 : Dj m_S_sheet 4 (.ifCond .eq) 7 17 := ⟨13, by decide +kernel, rfl, by decide⟩
set_option maxRecDepth 100000 in
theorem d_S_sheet_7 : Dc m_S_sheet 7 (.iload_n 2) 1 8 := ⟨by decide +kernel, rfl⟩
set_option maxRecDepth 100000 in
theorem d_S_sheet_8 : Dc m_S_sheet 8 (.iconst (-1)) 1 9 := ⟨by decide +kernel, rfl⟩
set_option maxRecDepth 100000 in
theorem d_S_sheet_9 : Dj m_S_sheet 9 (.if_icmp .lt) 12 17 := ⟨8, by decide +kernel, rfl, by decide⟩
set_option maxRecDepth 100000 in
theorem d_S_sheet_12 : Dc m_S_sheet 12 (.iload_n 2) 1 13 := ⟨by decide +kernel, rfl⟩
set_option maxRecDepth 100000 in
theorem d_S_sheet_13 : Dc m_S_sheet 13 (.iconst 3) 1 14 := ⟨by decide +kernel, rfl⟩
set_option maxRecDepth 100000 in
theorem d_S_sheet_14 : Dj m_S_sheet 14 (.if_icmp .le) 17 19 := ⟨5, by decide +kernel, rfl, by decide⟩
set_option maxRecDepth 100000 in
theorem d_S_sheet_17 : Dc m_S_sheet 17 (.iconst (-1)) 1 18 := ⟨by decide +kernel, rfl⟩
set_option maxRecDepth 100000 in
theorem d_S_sheet_18 : Dc m_S_sheet 18 .ireturn 1 19 := ⟨by decide +kernel, rfl⟩
set_option maxRecDepth 100000 in
theorem d_S_sheet_19 : Dc m_S_sheet 19 (.iload_n 2) 1 20 := ⟨by decide +kernel, rfl⟩
set_option maxRecDepth 100000 in
theorem d_S_sheet_20 : Dc m_S_sheet 20 (.iconst (-1)) 1 21 := ⟨by decide +kernel, rfl⟩
set_option maxRecDepth 100000 in
theorem d_S_sheet_21 : Dj m_S_sheet 21 (.if_icmp .ne) 24 35 := ⟨14, by decide +kernel, rfl, by decide⟩
set_option maxRecDepth 100000 in
theorem d_S_sheet_24 : Dc m_S_sheet 24 (.aload_n 0) 1 25 := ⟨by decide +kernel, rfl⟩
set_option maxRecDepth 100000 in
theorem d_S_sheet_25 : Dc m_S_sheet 25 (.getfield 74) 3 28 := ⟨by decide +kernel, rfl⟩
set_option maxRecDepth 100000 in
theorem d_S_sheet_28 : Dc m_S_sheet 28 (.iload_n 1) 1 29 := ⟨by decide +kernel, rfl⟩
set_option maxRecDepth 100000 in
theorem d_S_sheet_29 : Dc m_S_sheet 29 .aaload 1 30 := ⟨by decide +kernel, rfl⟩
set_option maxRecDepth 100000 in
theorem d_S_sheet_30 : Dc m_S_sheet 30 (.invokevirtual 335) 3 33 := ⟨by decide +kernel, rfl⟩
set_option maxRecDepth 100000 in
theorem d_S_sheet_33 : Dc m_S_sheet 33 (.iconst 1) 1 34 := ⟨by decide +kernel, rfl⟩
set_option maxRecDepth 100000 in
theorem d_S_sheet_34 : Dc m_S_sheet 34 .ireturn 1 35 := ⟨by decide +kernel, rfl⟩
set_option maxRecDepth 100000 in
theorem d_S_sheet_35 : Dc m_S_sheet 35 (.iload_n 3) 1 36 := ⟨by decide +kernel, rfl⟩
set_option maxRecDepth 100000 in
theorem d_S_sheet_36 : Dc m_S_sheet 36 (.bipush (40)) 2 38 := ⟨by decide +kernel, rfl⟩
set_option maxRecDepth 100000 in
theorem d_S_sheet_38 : Dj m_S_sheet 38 (.if_icmp .le) 41 43 := ⟨5, by decide +kernel, rfl, by decide⟩
set_option maxRecDepth 100000 in
theorem d_S_sheet_41 : Dc m_S_sheet 41 (.iconst (-1)) 1 42 := ⟨by decide +kernel, rfl⟩
set_option maxRecDepth 100000 in
theorem d_S_sheet_42 : Dc m_S_sheet 42 .ireturn 1 43 := ⟨by decide +kernel, rfl⟩
set_option maxRecDepth 100000 in
theorem d_S_sheet_43 : Dc m_S_sheet 43 (.iload_n 3) 1 44 := ⟨by decide +kernel, rfl⟩
set_option maxRecDepth 100000 in
theorem d_S_sheet_44 : Dj m_S_sheet 44 (.ifCond .ge) 47 50 := ⟨6, by decide +kernel, rfl, by decide⟩
set_option maxRecDepth 100000 in
theorem d_S_sheet_47 : Dc m_S_sheet 47 (.bipush (-14)) 2 49 := ⟨by decide +kernel, rfl⟩
set_option maxRecDepth 100000 in
theorem d_S_sheet_49 : Dc m_S_sheet 49 .ireturn 1 50 := ⟨by decide +kernel, rfl⟩
set_option maxRecDepth 100000 in
theorem d_S_sheet_50 : Dc m_S_sheet 50 (.aload_n 0) 1 51 := ⟨by decide +kernel, rfl⟩
set_option maxRecDepth 100000 in
theorem d_S_sheet_51 : Dc m_S_sheet 51 (.getfield 74) 3 54 := ⟨by decide +kernel, rfl⟩
set_option maxRecDepth 100000 in
theorem d_S_sheet_54 : Dc m_S_sheet 54 (.iload_n 1) 1 55 := ⟨by decide +kernel, rfl⟩
set_option maxRecDepth 100000 in
theorem d_S_sheet_55 : Dc m_S_sheet 55 .aaload 1 56 := ⟨by decide +kernel, rfl⟩
set_option maxRecDepth 100000 in
theorem d_S_sheet_56 : Dc m_S_sheet 56 (.iload_n 2) 1 57 := ⟨by decide +kernel, rfl⟩
set_option maxRecDepth 100000 in
theorem d_S_sheet_57 : Dc m_S_sheet 57 (.iload_n 3) 1 58 := ⟨by decide +kernel, rfl⟩
set_option maxRecDepth 100000 in
theorem d_S_sheet_58 : Dc m_S_sheet 58 (.invokevirtual 338) 3 61 := ⟨by decide +kernel, rfl⟩
set_option maxRecDepth 100000 in
theorem d_S_sheet_61 : Dc m_S_sheet 61 (.iconst 1) 1 62 := ⟨by decide +kernel, rfl⟩
set_option maxRecDepth 100000 in
theorem d_S_sheet_62 : Dc m_S_sheet 62 .ireturn 1 63 := ⟨by decide +kernel, rfl⟩
set_option maxRecDepth 100000 in
theorem d_S_put_0 : Dc m_S_put 0 (.iload_n 1) 1 1 := ⟨by decide +kernel, rfl⟩
set_option maxRecDepth 100000 in
theorem d_S_put_1 : Dc m_S_put 1 (.invokestatic 313) 3 4 := ⟨by decide +kernel, rfl⟩
set_option maxRecDepth 100000 in
theorem d_S_put_4 : Dj m_S_put 4 (.ifCond .ne) 7 9 := ⟨5, by decide +kernel, rfl, by decide⟩
set_option maxRecDepth 100000 in
theorem d_S_put_7 : Dc m_S_put 7 (.iconst (-1)) 1 8 := ⟨by decide +kernel, rfl⟩
set_option maxRecDepth 100000 in
theorem d_S_put_8 : Dc m_S_put 8 .ireturn 1 9 := ⟨by decide +kernel, rfl⟩
set_option maxRecDepth 100000 in
theorem d_S_put_9 : Dc m_S_put 9 (.aload_n 0) 1 10 := ⟨by decide +kernel, rfl⟩
set_option maxRecDepth 100000 in
theorem d_S_put_10 : Dc m_S_put 10 (.getfield 74) 3 13 := ⟨by decide +kernel, rfl⟩
set_option maxRecDepth 100000 in
theorem d_S_put_13 : Dc m_S_put 13 (.iload_n 1) 1 14 := ⟨by decide +kernel, rfl⟩
set_option maxRecDepth 100000 in
theorem d_S_put_14 : Dc m_S_put 14 .aaload 1 15 := ⟨by decide +kernel, rfl⟩
set_option maxRecDepth 100000 in
theorem d_S_put_15 : Dc m_S_put 15 (.astore 4) 2 17 := ⟨by decide +kernel, rfl⟩
set_option maxRecDepth 100000 in
theorem d_S_put_17 : Dc m_S_put 17 (.aload 4) 2 19 := ⟨by decide +kernel, rfl⟩
set_option maxRecDepth 100000 in
theorem d_S_put_19 : Dc m_S_put 19 (.invokevirtual 316) 3 22 := ⟨by decide +kernel, rfl⟩
set_option maxRecDepth 100000 in
theorem d_S_put_22 : Dj m_S_put 22 (.ifCond .eq) 25 28 := ⟨6, by decide +kernel, rfl, by decide⟩
set_option maxRecDepth 100000 in
theorem d_S_put_25 : Dc m_S_put 25 (.bipush (-11)) 2 27 := ⟨by decide +kernel, rfl⟩
set_option maxRecDepth 100000 in
theorem d_S_put_27 : Dc m_S_put 27 .ireturn 1 28 := ⟨by decide +kernel, rfl⟩
set_option maxRecDepth 100000 in
theorem d_S_put_28 : Dc m_S_put 28 (.iload_n 2) 1 29 := ⟨by decide +kernel, rfl⟩
set_option maxRecDepth 100000 in
theorem d_S_put_29 : Dj m_S_put 29 (.ifCond .lt) 32 41 := ⟨12, by decide +kernel, rfl, by decide⟩
set_option maxRecDepth 100000 in
theorem d_S_put_32 : Dc m_S_put 32 (.iload_n 2) 1 33 := ⟨by decide +kernel, rfl⟩
set_option maxRecDepth 100000 in
theorem d_S_put_33 : Dc m_S_put 33 (.aload 4) 2 35 := ⟨by decide +kernel, rfl⟩
set_option maxRecDepth 100000 in
theorem d_S_put_35 : Dc m_S_put 35 (.getfield 322) 3 38 := ⟨by decide +kernel, rfl⟩
set_option maxRecDepth 100000 in
theorem d_S_put_38 : Dj m_S_put 38 (.if_icmp .lt) 41 44 := ⟨6, by decide +kernel, rfl, by decide⟩
set_option maxRecDepth 100000 in
theorem d_S_put_41 : Dc m_S_put 41 (.bipush (-12)) 2 43 := ⟨by decide +kernel, rfl⟩
set_option maxRecDepth 100000 in
theorem d_S_put_43 : Dc m_S_put 43 .ireturn 1 44 := ⟨by decide +kernel, rfl⟩
set_option maxRecDepth 100000 in
theorem d_S_put_44 : Dc m_S_put 44 (.aload 4) 2 46 := ⟨by decide +kernel, rfl⟩
set_option maxRecDepth 100000 in
theorem d_S_put_46 : Dc m_S_put 46 (.getfield 323) 3 49 := ⟨by decide +kernel, rfl⟩
set_option maxRecDepth 100000 in
theorem d_S_put_49 : Dc m_S_put 49 (.iload_n 2) 1 50 := ⟨by decide +kernel, rfl⟩
set_option maxRecDepth 100000 in
theorem d_S_put_50 : Dc m_S_put 50 (.aload 4) 2 52 := ⟨by decide +kernel, rfl⟩
set_option maxRecDepth 100000 in
theorem d_S_put_52 : Dc m_S_put 52 (.iload_n 3) 1 53 := ⟨by decide +kernel, rfl⟩
set_option maxRecDepth 100000 in
theorem d_S_put_53 : Dc m_S_put 53 (.invokevirtual 341) 3 56 := ⟨by decide +kernel, rfl⟩
set_option maxRecDepth 100000 in
theorem d_S_put_56 : Dc m_S_put 56 .lastore 1 57 := ⟨by decide +kernel, rfl⟩
set_option maxRecDepth 100000 in
theorem d_S_put_57 : Dc m_S_put 57 (.iconst 1) 1 58 := ⟨by decide +kernel, rfl⟩
set_option maxRecDepth 100000 in
theorem d_S_put_58 : Dc m_S_put 58 .ireturn 1 59 := ⟨by decide +kernel, rfl⟩
set_option maxRecDepth 100000 in
theorem d_S_number_0 : Dc m_S_number 0 (.iload_n 1) 1 1 := ⟨by decide +kernel, rfl⟩
set_option maxRecDepth 100000 in
theorem d_S_number_1 : Dc m_S_number 1 (.invokestatic 313) 3 4 := ⟨by decide +kernel, rfl⟩
set_option maxRecDepth 100000 in
theorem d_S_number_4 : Dj m_S_number 4 (.ifCond .eq) 7 15 := ⟨11, by decide +kernel, rfl, by decide⟩
set_option maxRecDepth 100000 in
theorem d_S_number_7 : Dc m_S_number 7 (.iload_n 2) 1 8 := ⟨by decide +kernel, rfl⟩
set_option maxRecDepth 100000 in
theorem d_S_number_8 : Dc m_S_number 8 (.iconst 3) 1 9 := ⟨by decide +kernel, rfl⟩
set_option maxRecDepth 100000 in
theorem d_S_number_9 : Dc m_S_number 9 (.invokestatic 118) 3 12 := ⟨by decide +kernel, rfl⟩
set_option maxRecDepth 100000 in
theorem d_S_number_12 : Dj m_S_number 12 (.ifCond .ne) 15 17 := ⟨5, by decide +kernel, rfl, by decide⟩
set_option maxRecDepth 100000 in
theorem d_S_number_15 : Dc m_S_number 15 (.iconst (-1)) 1 16 := ⟨by decide +kernel, rfl⟩
set_option maxRecDepth 100000 in
theorem d_S_number_16 : Dc m_S_number 16 .ireturn 1 17 := ⟨by decide +kernel, rfl⟩
set_option maxRecDepth 100000 in
theorem d_S_number_17 : Dc m_S_number 17 (.aload_n 0) 1 18 := ⟨by decide +kernel, rfl⟩
set_option maxRecDepth 100000 in
theorem d_S_number_18 : Dc m_S_number 18 (.getfield 74) 3 21 := ⟨by decide +kernel, rfl⟩
set_option maxRecDepth 100000 in
theorem d_S_number_21 : Dc m_S_number 21 (.iload_n 1) 1 22 := ⟨by decide +kernel, rfl⟩
set_option maxRecDepth 100000 in
theorem d_S_number_22 : Dc m_S_number 22 .aaload 1 23 := ⟨by decide +kernel, rfl⟩
set_option maxRecDepth 100000 in
theorem d_S_number_23 : Dc m_S_number 23 (.astore 4) 2 25 := ⟨by decide +kernel, rfl⟩
set_option maxRecDepth 100000 in
theorem d_S_number_25 : Dc m_S_number 25 (.aload 4) 2 27 := ⟨by decide +kernel, rfl⟩
set_option maxRecDepth 100000 in
theorem d_S_number_27 : Dc m_S_number 27 (.invokevirtual 316) 3 30 := ⟨by decide +kernel, rfl⟩
set_option maxRecDepth 100000 in
theorem d_S_number_30 : Dj m_S_number 30 (.ifCond .eq) 33 36 := ⟨6, by decide +kernel, rfl, by decide⟩
set_option maxRecDepth 100000 in
theorem d_S_number_33 : Dc m_S_number 33 (.bipush (-11)) 2 35 := ⟨by decide +kernel, rfl⟩
set_option maxRecDepth 100000 in
theorem d_S_number_35 : Dc m_S_number 35 .ireturn 1 36 := ⟨by decide +kernel, rfl⟩
set_option maxRecDepth 100000 in
theorem d_S_number_36 : Dc m_S_number 36 (.aload 4) 2 38 := ⟨by decide +kernel, rfl⟩
set_option maxRecDepth 100000 in
theorem d_S_number_38 : Dc m_S_number 38 (.getfield 319) 3 41 := ⟨by decide +kernel, rfl⟩
set_option maxRecDepth 100000 in
theorem d_S_number_41 : Dc m_S_number 41 (.iload_n 2) 1 42 := ⟨by decide +kernel, rfl⟩
set_option maxRecDepth 100000 in
theorem d_S_number_42 : Dj m_S_number 42 (.if_icmp .eq) 45 48 := ⟨6, by decide +kernel, rfl, by decide⟩
set_option maxRecDepth 100000 in
theorem d_S_number_45 : Dc m_S_number 45 (.bipush (-13)) 2 47 := ⟨by decide +kernel, rfl⟩
set_option maxRecDepth 100000 in
theorem d_S_number_47 : Dc m_S_number 47 .ireturn 1 48 := ⟨by decide +kernel, rfl⟩
set_option maxRecDepth 100000 in
theorem d_S_number_48 : Dc m_S_number 48 (.iload_n 3) 1 49 := ⟨by decide +kernel, rfl⟩
set_option maxRecDepth 100000 in
theorem d_S_number_49 : Dj m_S_number 49 (.ifCond .lt) 52 61 := ⟨12, by decide +kernel, rfl, by decide⟩
set_option maxRecDepth 100000 in
theorem d_S_number_52 : Dc m_S_number 52 (.iload_n 3) 1 53 := ⟨by decide +kernel, rfl⟩
set_option maxRecDepth 100000 in
theorem d_S_number_53 : Dc m_S_number 53 (.aload 4) 2 55 := ⟨by decide +kernel, rfl⟩
set_option maxRecDepth 100000 in
theorem d_S_number_55 : Dc m_S_number 55 (.getfield 322) 3 58 := ⟨by decide +kernel, rfl⟩
set_option maxRecDepth 100000 in
theorem d_S_number_58 : Dj m_S_number 58 (.if_icmp .lt) 61 64 := ⟨6, by decide +kernel, rfl, by decide⟩
set_option maxRecDepth 100000 in
theorem d_S_number_61 : Dc m_S_number 61 (.bipush (-12)) 2 63 := ⟨by decide +kernel, rfl⟩
set_option maxRecDepth 100000 in
theorem d_S_number_63 : Dc m_S_number 63 .ireturn 1 64 := ⟨by decide +kernel, rfl⟩
set_option maxRecDepth 100000 in
theorem d_S_number_64 : Dc m_S_number 64 (.aload 4) 2 66 := ⟨by decide +kernel, rfl⟩
set_option maxRecDepth 100000 in
theorem d_S_number_66 : Dc m_S_number 66 (.getfield 323) 3 69 := ⟨by decide +kernel, rfl⟩
set_option maxRecDepth 100000 in
theorem d_S_number_69 : Dc m_S_number 69 (.iload_n 3) 1 70 := ⟨by decide +kernel, rfl⟩
set_option maxRecDepth 100000 in
theorem d_S_number_70 : Dc m_S_number 70 .laload 1 71 := ⟨by decide +kernel, rfl⟩
set_option maxRecDepth 100000 in
theorem d_S_number_71 : Dc m_S_number 71 .l2i 1 72 := ⟨by decide +kernel, rfl⟩
set_option maxRecDepth 100000 in
theorem d_S_number_72 : Dc m_S_number 72 .ireturn 1 73 := ⟨by decide +kernel, rfl⟩
set_option maxRecDepth 100000 in
theorem d_S_shelf_0 : Dc m_S_shelf 0 (.iload_n 1) 1 1 := ⟨by decide +kernel, rfl⟩
set_option maxRecDepth 100000 in
theorem d_S_shelf_1 : Dc m_S_shelf 1 (.invokestatic 345) 3 4 := ⟨by decide +kernel, rfl⟩
set_option maxRecDepth 100000 in
theorem d_S_shelf_4 : Dj m_S_shelf 4 (.ifCond .ne) 7 9 := ⟨5, by decide +kernel, rfl, by decide⟩
set_option maxRecDepth 100000 in
theorem d_S_shelf_7 : Dc m_S_shelf 7 (.iconst (-1)) 1 8 := ⟨by decide +kernel, rfl⟩
set_option maxRecDepth 100000 in
theorem d_S_shelf_8 : Dc m_S_shelf 8 .ireturn 1 9 := ⟨by decide +kernel, rfl⟩
set_option maxRecDepth 100000 in
theorem d_S_shelf_9 : Dc m_S_shelf 9 (.iload_n 2) 1 10 := ⟨by decide +kernel, rfl⟩
set_option maxRecDepth 100000 in
theorem d_S_shelf_10 : Ts m_S_shelf 10 [(0, 36), (1, 61), (2, 87)] 98 := ⟨88, 0, 2, [26, 51, 77], 26, by decide +kernel, by decide, by decide +kernel⟩
set_option maxRecDepth 100000 in
theorem d_S_shelf_36 : Dc m_S_shelf 36 (.aload_n 0) 1 37 := ⟨by decide +kernel, rfl⟩
set_option maxRecDepth 100000 in
theorem d_S_shelf_37 : Dc m_S_shelf 37 (.getfield 12) 3 40 := ⟨by decide +kernel, rfl⟩
set_option maxRecDepth 100000 in
theorem d_S_shelf_40 : Dc m_S_shelf 40 (.iload_n 3) 1 41 := ⟨by decide +kernel, rfl⟩
set_option maxRecDepth 100000 in
theorem d_S_shelf_41 : Dc m_S_shelf 41 (.invokevirtual 127) 3 44 := ⟨by decide +kernel, rfl⟩
set_option maxRecDepth 100000 in
theorem d_S_shelf_44 : Dj m_S_shelf 44 .ifnonnull 47 49 := ⟨5, by decide +kernel, rfl, by decide⟩
set_option maxRecDepth 100000 in
theorem d_S_shelf_47 : Dc m_S_shelf 47 (.iconst (-1)) 1 48 := ⟨by decide +kernel, rfl⟩
set_option maxRecDepth 100000 in
theorem d_S_shelf_48 : Dc m_S_shelf 48 .ireturn 1 49 := ⟨by decide +kernel, rfl⟩
set_option maxRecDepth 100000 in
theorem d_S_shelf_49 : Dc m_S_shelf 49 (.aload_n 0) 1 50 := ⟨by decide +kernel, rfl⟩
set_option maxRecDepth 100000 in
theorem d_S_shelf_50 : Dc m_S_shelf 50 (.getfield 80) 3 53 := ⟨by decide +kernel, rfl⟩
set_option maxRecDepth 100000 in
theorem d_S_shelf_53 : Dc m_S_shelf 53 (.iload_n 1) 1 54 := ⟨by decide +kernel, rfl⟩
set_option maxRecDepth 100000 in
theorem d_S_shelf_54 : Dc m_S_shelf 54 .aaload 1 55 := ⟨by decide +kernel, rfl⟩
set_option maxRecDepth 100000 in
theorem d_S_shelf_55 : Dc m_S_shelf 55 (.iload_n 3) 1 56 := ⟨by decide +kernel, rfl⟩
set_option maxRecDepth 100000 in
theorem d_S_shelf_56 : Dc m_S_shelf 56 (.invokevirtual 348) 3 59 := ⟨by decide +kernel, rfl⟩
set_option maxRecDepth 100000 in
theorem d_S_shelf_59 : Dc m_S_shelf 59 (.iconst 1) 1 60 := ⟨by decide +kernel, rfl⟩
set_option maxRecDepth 100000 in
theorem d_S_shelf_60 : Dc m_S_shelf 60 .ireturn 1 61 := ⟨by decide +kernel, rfl⟩
set_option maxRecDepth 100000 in
theorem d_S_shelf_61 : Dc m_S_shelf 61 (.iload_n 3) 1 62 := ⟨by decide +kernel, rfl⟩
set_option maxRecDepth 100000 in
theorem d_S_shelf_62 : Dc m_S_shelf 62 (.invokestatic 313) 3 65 := ⟨by decide +kernel, rfl⟩
set_option maxRecDepth 100000 in
theorem d_S_shelf_65 : Dj m_S_shelf 65 (.ifCond .ne) 68 70 := ⟨5, by decide +kernel, rfl, by decide⟩
set_option maxRecDepth 100000 in
theorem d_S_shelf_68 : Dc m_S_shelf 68 (.iconst (-1)) 1 69 := ⟨by decide +kernel, rfl⟩
set_option maxRecDepth 100000 in
theorem d_S_shelf_69 : Dc m_S_shelf 69 .ireturn 1 70 := ⟨by decide +kernel, rfl⟩
set_option maxRecDepth 100000 in
theorem d_S_shelf_70 : Dc m_S_shelf 70 (.aload_n 0) 1 71 := ⟨by decide +kernel, rfl⟩
set_option maxRecDepth 100000 in
theorem d_S_shelf_71 : Dc m_S_shelf 71 (.getfield 80) 3 74 := ⟨by decide +kernel, rfl⟩
set_option maxRecDepth 100000 in
theorem d_S_shelf_74 : Dc m_S_shelf 74 (.iload_n 1) 1 75 := ⟨by decide +kernel, rfl⟩
set_option maxRecDepth 100000 in
theorem d_S_shelf_75 : Dc m_S_shelf 75 .aaload 1 76 := ⟨by decide +kernel, rfl⟩
set_option maxRecDepth 100000 in
theorem d_S_shelf_76 : Dc m_S_shelf 76 (.aload_n 0) 1 77 := ⟨by decide +kernel, rfl⟩
set_option maxRecDepth 100000 in
theorem d_S_shelf_77 : Dc m_S_shelf 77 (.getfield 74) 3 80 := ⟨by decide +kernel, rfl⟩
set_option maxRecDepth 100000 in
theorem d_S_shelf_80 : Dc m_S_shelf 80 (.iload_n 3) 1 81 := ⟨by decide +kernel, rfl⟩
set_option maxRecDepth 100000 in
theorem d_S_shelf_81 : Dc m_S_shelf 81 .aaload 1 82 := ⟨by decide +kernel, rfl⟩
set_option maxRecDepth 100000 in
theorem d_S_shelf_82 : Dc m_S_shelf 82 (.invokevirtual 351) 3 85 := ⟨by decide +kernel, rfl⟩
set_option maxRecDepth 100000 in
theorem d_S_shelf_85 : Dc m_S_shelf 85 (.iconst 1) 1 86 := ⟨by decide +kernel, rfl⟩
set_option maxRecDepth 100000 in
theorem d_S_shelf_86 : Dc m_S_shelf 86 .ireturn 1 87 := ⟨by decide +kernel, rfl⟩
set_option maxRecDepth 100000 in
theorem d_S_shelf_87 : Dc m_S_shelf 87 (.aload_n 0) 1 88 := ⟨by decide +kernel, rfl⟩
set_option maxRecDepth 100000 in
theorem d_S_shelf_88 : Dc m_S_shelf 88 (.getfield 80) 3 91 := ⟨by decide +kernel, rfl⟩
set_option maxRecDepth 100000 in
theorem d_S_shelf_91 : Dc m_S_shelf 91 (.iload_n 1) 1 92 := ⟨by decide +kernel, rfl⟩
set_option maxRecDepth 100000 in
theorem d_S_shelf_92 : Dc m_S_shelf 92 .aaload 1 93 := ⟨by decide +kernel, rfl⟩
set_option maxRecDepth 100000 in
theorem d_S_shelf_93 : Dc m_S_shelf 93 (.invokevirtual 355) 3 96 := ⟨by decide +kernel, rfl⟩
set_option maxRecDepth 100000 in
theorem d_S_shelf_96 : Dc m_S_shelf 96 (.iconst 1) 1 97 := ⟨by decide +kernel, rfl⟩
set_option maxRecDepth 100000 in
theorem d_S_shelf_97 : Dc m_S_shelf 97 .ireturn 1 98 := ⟨by decide +kernel, rfl⟩
set_option maxRecDepth 100000 in
theorem d_S_shelf_98 : Dc m_S_shelf 98 (.iconst (-1)) 1 99 := ⟨by decide +kernel, rfl⟩
set_option maxRecDepth 100000 in
theorem d_S_shelf_99 : Dc m_S_shelf 99 .ireturn 1 100 := ⟨by decide +kernel, rfl⟩
set_option maxRecDepth 100000 in
theorem d_S_taken_0 : Dc m_S_taken 0 (.iload_n 2) 1 1 := ⟨by decide +kernel, rfl⟩
set_option maxRecDepth 100000 in
theorem d_S_taken_1 : Dj m_S_taken 1 (.ifCond .lt) 4 14 := ⟨13, by decide +kernel, rfl, by decide⟩
set_option maxRecDepth 100000 in
theorem d_S_taken_4 : Dc m_S_taken 4 (.iload_n 2) 1 5 := ⟨by decide +kernel, rfl⟩
set_option maxRecDepth 100000 in
theorem d_S_taken_5 : Dc m_S_taken 5 (.bipush (6)) 2 7 := ⟨by decide +kernel, rfl⟩
set_option maxRecDepth 100000 in
theorem d_S_taken_7 : Dj m_S_taken 7 (.if_icmp .ge) 10 14 := ⟨7, by decide +kernel, rfl, by decide⟩
set_option maxRecDepth 100000 in
theorem d_S_taken_10 : Dc m_S_taken 10 (.iconst 1) 1 11 := ⟨by decide +kernel, rfl⟩
set_option maxRecDepth 100000 in
theorem d_S_taken_11 : Dj m_S_taken 11 .goto 14 15 := ⟨4, by decide +kernel, rfl, by decide⟩
set_option maxRecDepth 100000 in
theorem d_S_taken_14 : Dc m_S_taken 14 (.iconst 0) 1 15 := ⟨by decide +kernel, rfl⟩
set_option maxRecDepth 100000 in
theorem d_S_taken_15 : Dc m_S_taken 15 (.istore_n 3) 1 16 := ⟨by decide +kernel, rfl⟩
set_option maxRecDepth 100000 in
theorem d_S_taken_16 : Dc m_S_taken 16 (.iload_n 2) 1 17 := ⟨by decide +kernel, rfl⟩
set_option maxRecDepth 100000 in
theorem d_S_taken_17 : Dc m_S_taken 17 (.bipush (10)) 2 19 := ⟨by decide +kernel, rfl⟩
set_option maxRecDepth 100000 in
theorem d_S_taken_19 : Dj m_S_taken 19 (.if_icmp .lt) 22 32 := ⟨13, by decide +kernel, rfl, by decide⟩
set_option maxRecDepth 100000 in
theorem d_S_taken_22 : Dc m_S_taken 22 (.iload_n 2) 1 23 := ⟨by decide +kernel, rfl⟩
set_option maxRecDepth 100000 in
theorem d_S_taken_23 : Dc m_S_taken 23 (.bipush (13)) 2 25 := ⟨by decide +kernel, rfl⟩
set_option maxRecDepth 100000 in
theorem d_S_taken_25 : Dj m_S_taken 25 (.if_icmp .gt) 28 32 := ⟨7, by decide +kernel, rfl, by decide⟩
set_option maxRecDepth 100000 in
theorem d_S_taken_28 : Dc m_S_taken 28 (.iconst 1) 1 29 := ⟨by decide +kernel, rfl⟩
set_option maxRecDepth 100000 in
theorem d_S_taken_29 : Dj m_S_taken 29 .goto 32 33 := ⟨4, by decide +kernel, rfl, by decide⟩
set_option maxRecDepth 100000 in
theorem d_S_taken_32 : Dc m_S_taken 32 (.iconst 0) 1 33 := ⟨by decide +kernel, rfl⟩
set_option maxRecDepth 100000 in
theorem d_S_taken_33 : Dc m_S_taken 33 (.istore 4) 2 35 := ⟨by decide +kernel, rfl⟩
set_option maxRecDepth 100000 in
theorem d_S_taken_35 : Dc m_S_taken 35 (.iload_n 1) 1 36 := ⟨by decide +kernel, rfl⟩
set_option maxRecDepth 100000 in
theorem d_S_taken_36 : Dc m_S_taken 36 (.invokestatic 345) 3 39 := ⟨by decide +kernel, rfl⟩
set_option maxRecDepth 100000 in
theorem d_S_taken_39 : Dj m_S_taken 39 (.ifCond .eq) 42 51 := ⟨12, by decide +kernel, rfl, by decide⟩
set_option maxRecDepth 100000 in
theorem d_S_taken_42 : Dc m_S_taken 42 (.iload_n 3) 1 43 := ⟨by decide +kernel, rfl⟩
set_option maxRecDepth 100000 in
theorem d_S_taken_43 : Dj m_S_taken 43 (.ifCond .ne) 46 53 := ⟨10, by decide +kernel, rfl, by decide⟩
set_option maxRecDepth 100000 in
theorem d_S_taken_46 : Dc m_S_taken 46 (.iload 4) 2 48 := ⟨by decide +kernel, rfl⟩
set_option maxRecDepth 100000 in
theorem d_S_taken_48 : Dj m_S_taken 48 (.ifCond .ne) 51 53 := ⟨5, by decide +kernel, rfl, by decide⟩
set_option maxRecDepth 100000 in
theorem d_S_taken_51 : Dc m_S_taken 51 (.iconst (-1)) 1 52 := ⟨by decide +kernel, rfl⟩
set_option maxRecDepth 100000 in
theorem d_S_taken_52 : Dc m_S_taken 52 .ireturn 1 53 := ⟨by decide +kernel, rfl⟩
set_option maxRecDepth 100000 in
theorem d_S_taken_53 : Dc m_S_taken 53 (.aload_n 0) 1 54 := ⟨by decide +kernel, rfl⟩
set_option maxRecDepth 100000 in
theorem d_S_taken_54 : Dc m_S_taken 54 (.getfield 80) 3 57 := ⟨by decide +kernel, rfl⟩
set_option maxRecDepth 100000 in
theorem d_S_taken_57 : Dc m_S_taken 57 (.iload_n 1) 1 58 := ⟨by decide +kernel, rfl⟩
set_option maxRecDepth 100000 in
theorem d_S_taken_58 : Dc m_S_taken 58 .aaload 1 59 := ⟨by decide +kernel, rfl⟩
set_option maxRecDepth 100000 in
theorem d_S_taken_59 : Dc m_S_taken 59 (.astore 5) 2 61 := ⟨by decide +kernel, rfl⟩
set_option maxRecDepth 100000 in
theorem d_S_taken_61 : Dc m_S_taken 61 (.aload 5) 2 63 := ⟨by decide +kernel, rfl⟩
set_option maxRecDepth 100000 in
theorem d_S_taken_63 : Dc m_S_taken 63 (.invokevirtual 358) 3 66 := ⟨by decide +kernel, rfl⟩
set_option maxRecDepth 100000 in
theorem d_S_taken_66 : Dj m_S_taken 66 (.ifCond .eq) 69 97 := ⟨31, by decide +kernel, rfl, by decide⟩
set_option maxRecDepth 100000 in
theorem d_S_taken_69 : Dc m_S_taken 69 (.iload 4) 2 71 := ⟨by decide +kernel, rfl⟩
set_option maxRecDepth 100000 in
theorem d_S_taken_71 : Dj m_S_taken 71 (.ifCond .eq) 74 94 := ⟨23, by decide +kernel, rfl, by decide⟩
set_option maxRecDepth 100000 in
theorem d_S_taken_74 : Dc m_S_taken 74 (.aload 5) 2 76 := ⟨by decide +kernel, rfl⟩
set_option maxRecDepth 100000 in
theorem d_S_taken_76 : Dc m_S_taken 76 (.getfield 361) 3 79 := ⟨by decide +kernel, rfl⟩
set_option maxRecDepth 100000 in
theorem d_S_taken_79 : Dc m_S_taken 79 (.iload_n 2) 1 80 := ⟨by decide +kernel, rfl⟩
set_option maxRecDepth 100000 in
theorem d_S_taken_80 : Dc m_S_taken 80 (.bipush (10)) 2 82 := ⟨by decide +kernel, rfl⟩
set_option maxRecDepth 100000 in
theorem d_S_taken_82 : Dc m_S_taken 82 .isub 1 83 := ⟨by decide +kernel, rfl⟩
set_option maxRecDepth 100000 in
theorem d_S_taken_83 : Dj m_S_taken 83 (.if_icmp .ne) 86 94 := ⟨11, by decide +kernel, rfl, by decide⟩
set_option maxRecDepth 100000 in
theorem d_S_taken_86 : Dc m_S_taken 86 (.aload 5) 2 88 := ⟨by decide +kernel, rfl⟩
set_option maxRecDepth 100000 in
theorem d_S_taken_88 : Dc m_S_taken 88 (.getfield 362) 3 91 := ⟨by decide +kernel, rfl⟩
set_option maxRecDepth 100000 in
theorem d_S_taken_91 : Dj m_S_taken 91 .goto 94 96 := ⟨5, by decide +kernel, rfl, by decide⟩
set_option maxRecDepth 100000 in
theorem d_S_taken_94 : Dc m_S_taken 94 (.bipush (-13)) 2 96 := ⟨by decide +kernel, rfl⟩
set_option maxRecDepth 100000 in
theorem d_S_taken_96 : Dc m_S_taken 96 .ireturn 1 97 := ⟨by decide +kernel, rfl⟩
set_option maxRecDepth 100000 in
theorem d_S_taken_97 : Dc m_S_taken 97 (.aload_n 0) 1 98 := ⟨by decide +kernel, rfl⟩
set_option maxRecDepth 100000 in
theorem d_S_taken_98 : Dc m_S_taken 98 (.getfield 12) 3 101 := ⟨by decide +kernel, rfl⟩
set_option maxRecDepth 100000 in
theorem d_S_taken_101 : Dc m_S_taken 101 (.aload 5) 2 103 := ⟨by decide +kernel, rfl⟩
set_option maxRecDepth 100000 in
theorem d_S_taken_103 : Dc m_S_taken 103 (.getfield 363) 3 106 := ⟨by decide +kernel, rfl⟩
set_option maxRecDepth 100000 in
theorem d_S_taken_106 : Dc m_S_taken 106 (.invokevirtual 127) 3 109 := ⟨by decide +kernel, rfl⟩
set_option maxRecDepth 100000 in
theorem d_S_taken_109 : Dc m_S_taken 109 (.astore 6) 2 111 := ⟨by decide +kernel, rfl⟩
set_option maxRecDepth 100000 in
theorem d_S_taken_111 : Dc m_S_taken 111 (.aload 6) 2 113 := ⟨by decide +kernel, rfl⟩
set_option maxRecDepth 100000 in
theorem d_S_taken_113 : Dj m_S_taken 113 .ifnonnull 116 119 := ⟨6, by decide +kernel, rfl, by decide⟩
set_option maxRecDepth 100000 in
theorem d_S_taken_116 : Dc m_S_taken 116 (.bipush (-11)) 2 118 := ⟨by decide +kernel, rfl⟩
set_option maxRecDepth 100000 in
theorem d_S_taken_118 : Dc m_S_taken 118 .ireturn 1 119 := ⟨by decide +kernel, rfl⟩
set_option maxRecDepth 100000 in
theorem d_S_taken_119 : Dc m_S_taken 119 (.iload_n 3) 1 120 := ⟨by decide +kernel, rfl⟩
set_option maxRecDepth 100000 in
theorem d_S_taken_120 : Dj m_S_taken 120 (.ifCond .eq) 123 143 := ⟨23, by decide +kernel, rfl, by decide⟩
set_option maxRecDepth 100000 in
theorem d_S_taken_123 : Dc m_S_taken 123 (.aload 6) 2 125 := ⟨by decide +kernel, rfl⟩
set_option maxRecDepth 100000 in
theorem d_S_taken_125 : Dc m_S_taken 125 (.getfield 131) 3 128 := ⟨by decide +kernel, rfl⟩
set_option maxRecDepth 100000 in
theorem d_S_taken_128 : Dc m_S_taken 128 (.iload_n 2) 1 129 := ⟨by decide +kernel, rfl⟩
set_option maxRecDepth 100000 in
theorem d_S_taken_129 : Dc m_S_taken 129 (.invokestatic 366) 3 132 := ⟨by decide +kernel, rfl⟩
set_option maxRecDepth 100000 in
theorem d_S_taken_132 : Dj m_S_taken 132 (.ifCond .eq) 135 143 := ⟨11, by decide +kernel, rfl, by decide⟩
set_option maxRecDepth 100000 in
theorem d_S_taken_135 : Dc m_S_taken 135 (.aload 5) 2 137 := ⟨by decide +kernel, rfl⟩
set_option maxRecDepth 100000 in
theorem d_S_taken_137 : Dc m_S_taken 137 (.getfield 363) 3 140 := ⟨by decide +kernel, rfl⟩
set_option maxRecDepth 100000 in
theorem d_S_taken_140 : Dj m_S_taken 140 .goto 143 145 := ⟨5, by decide +kernel, rfl, by decide⟩
set_option maxRecDepth 100000 in
theorem d_S_taken_143 : Dc m_S_taken 143 (.bipush (-13)) 2 145 := ⟨by decide +kernel, rfl⟩
set_option maxRecDepth 100000 in
theorem d_S_taken_145 : Dc m_S_taken 145 .ireturn 1 146 := ⟨by decide +kernel, rfl⟩
set_option maxRecDepth 100000 in
theorem d_S_act_0 : Dc m_S_act 0 (.aload_n 0) 1 1 := ⟨by decide +kernel, rfl⟩
set_option maxRecDepth 100000 in
theorem d_S_act_1 : Dc m_S_act 1 (.getfield 87) 3 4 := ⟨by decide +kernel, rfl⟩
set_option maxRecDepth 100000 in
theorem d_S_act_4 : Dc m_S_act 4 (.invokevirtual 369) 3 7 := ⟨by decide +kernel, rfl⟩
set_option maxRecDepth 100000 in
theorem d_S_act_7 : Dc m_S_act 7 (.iload_n 1) 1 8 := ⟨by decide +kernel, rfl⟩
set_option maxRecDepth 100000 in
theorem d_S_act_8 : Dc m_S_act 8 (.invokestatic 345) 3 11 := ⟨by decide +kernel, rfl⟩
set_option maxRecDepth 100000 in
theorem d_S_act_11 : Dj m_S_act 11 (.ifCond .eq) 14 22 := ⟨11, by decide +kernel, rfl, by decide⟩
set_option maxRecDepth 100000 in
theorem d_S_act_14 : Dc m_S_act 14 (.iload_n 2) 1 15 := ⟨by decide +kernel, rfl⟩
set_option maxRecDepth 100000 in
theorem d_S_act_15 : Dc m_S_act 15 (.iconst 3) 1 16 := ⟨by decide +kernel, rfl⟩
set_option maxRecDepth 100000 in
theorem d_S_act_16 : Dc m_S_act 16 (.invokestatic 118) 3 19 := ⟨by decide +kernel, rfl⟩
set_option maxRecDepth 100000 in
theorem d_S_act_19 : Dj m_S_act 19 (.ifCond .ne) 22 24 := ⟨5, by decide +kernel, rfl, by decide⟩
set_option maxRecDepth 100000 in
theorem d_S_act_22 : Dc m_S_act 22 (.iconst 0) 1 23 := ⟨by decide +kernel, rfl⟩
set_option maxRecDepth 100000 in
theorem d_S_act_23 : Dc m_S_act 23 .ireturn 1 24 := ⟨by decide +kernel, rfl⟩
set_option maxRecDepth 100000 in
theorem d_S_act_24 : Dc m_S_act 24 (.aload_n 0) 1 25 := ⟨by decide +kernel, rfl⟩
set_option maxRecDepth 100000 in
theorem d_S_act_25 : Dc m_S_act 25 (.getfield 80) 3 28 := ⟨by decide +kernel, rfl⟩
set_option maxRecDepth 100000 in
theorem d_S_act_28 : Dc m_S_act 28 (.iload_n 1) 1 29 := ⟨by decide +kernel, rfl⟩
set_option maxRecDepth 100000 in
theorem d_S_act_29 : Dc m_S_act 29 .aaload 1 30 := ⟨by decide +kernel, rfl⟩
set_option maxRecDepth 100000 in
theorem d_S_act_30 : Dc m_S_act 30 (.astore 4) 2 32 := ⟨by decide +kernel, rfl⟩
set_option maxRecDepth 100000 in
theorem d_S_act_32 : Dc m_S_act 32 (.aload_n 0) 1 33 := ⟨by decide +kernel, rfl⟩
set_option maxRecDepth 100000 in
theorem d_S_act_33 : Dc m_S_act 33 (.getfield 12) 3 36 := ⟨by decide +kernel, rfl⟩
set_option maxRecDepth 100000 in
theorem d_S_act_36 : Dc m_S_act 36 (.aload 4) 2 38 := ⟨by decide +kernel, rfl⟩
set_option maxRecDepth 100000 in
theorem d_S_act_38 : Dc m_S_act 38 (.getfield 363) 3 41 := ⟨by decide +kernel, rfl⟩
set_option maxRecDepth 100000 in
theorem d_S_act_41 : Dc m_S_act 41 (.invokevirtual 127) 3 44 := ⟨by decide +kernel, rfl⟩
set_option maxRecDepth 100000 in
theorem d_S_act_44 : Dc m_S_act 44 (.astore 5) 2 46 := ⟨by decide +kernel, rfl⟩
set_option maxRecDepth 100000 in
theorem d_S_act_46 : Dc m_S_act 46 (.aload 5) 2 48 := ⟨by decide +kernel, rfl⟩
set_option maxRecDepth 100000 in
theorem d_S_act_48 : Dj m_S_act 48 .ifnonnull 51 53 := ⟨5, by decide +kernel, rfl, by decide⟩
set_option maxRecDepth 100000 in
theorem d_S_act_51 : Dc m_S_act 51 (.iconst 0) 1 52 := ⟨by decide +kernel, rfl⟩
set_option maxRecDepth 100000 in
theorem d_S_act_52 : Dc m_S_act 52 .ireturn 1 53 := ⟨by decide +kernel, rfl⟩
set_option maxRecDepth 100000 in
theorem d_S_act_53 : Dc m_S_act 53 (.aload_n 0) 1 54 := ⟨by decide +kernel, rfl⟩
set_option maxRecDepth 100000 in
theorem d_S_act_54 : Dc m_S_act 54 (.getfield 87) 3 57 := ⟨by decide +kernel, rfl⟩
set_option maxRecDepth 100000 in
theorem d_S_act_57 : Dc m_S_act 57 (.aload 5) 2 59 := ⟨by decide +kernel, rfl⟩
set_option maxRecDepth 100000 in
theorem d_S_act_59 : Dc m_S_act 59 (.getfield 131) 3 62 := ⟨by decide +kernel, rfl⟩
set_option maxRecDepth 100000 in
theorem d_S_act_62 : Dc m_S_act 62 (.aload 4) 2 64 := ⟨by decide +kernel, rfl⟩
set_option maxRecDepth 100000 in
theorem d_S_act_64 : Dc m_S_act 64 (.getfield 363) 3 67 := ⟨by decide +kernel, rfl⟩
set_option maxRecDepth 100000 in
theorem d_S_act_67 : Dc m_S_act 67 (.aload 5) 2 69 := ⟨by decide +kernel, rfl⟩
set_option maxRecDepth 100000 in
theorem d_S_act_69 : Dc m_S_act 69 (.getfield 134) 3 72 := ⟨by decide +kernel, rfl⟩
set_option maxRecDepth 100000 in
theorem d_S_act_72 : Dc m_S_act 72 (.invokevirtual 372) 3 75 := ⟨by decide +kernel, rfl⟩
set_option maxRecDepth 100000 in
theorem d_S_act_75 : Dc m_S_act 75 (.aload_n 0) 1 76 := ⟨by decide +kernel, rfl⟩
set_option maxRecDepth 100000 in
theorem d_S_act_76 : Dc m_S_act 76 (.getfield 87) 3 79 := ⟨by decide +kernel, rfl⟩
set_option maxRecDepth 100000 in
theorem d_S_act_79 : Dc m_S_act 79 (.aload_n 0) 1 80 := ⟨by decide +kernel, rfl⟩
set_option maxRecDepth 100000 in
theorem d_S_act_80 : Dc m_S_act 80 (.getfield 87) 3 83 := ⟨by decide +kernel, rfl⟩
set_option maxRecDepth 100000 in
theorem d_S_act_83 : Dc m_S_act 83 (.iload_n 2) 1 84 := ⟨by decide +kernel, rfl⟩
set_option maxRecDepth 100000 in
theorem d_S_act_84 : Dc m_S_act 84 (.invokevirtual 375) 3 87 := ⟨by decide +kernel, rfl⟩
set_option maxRecDepth 100000 in
theorem d_S_act_87 : Dc m_S_act 87 (.iload_n 3) 1 88 := ⟨by decide +kernel, rfl⟩
set_option maxRecDepth 100000 in
theorem d_S_act_88 : Dc m_S_act 88 (.iconst 0) 1 89 := ⟨by decide +kernel, rfl⟩
set_option maxRecDepth 100000 in
theorem d_S_act_89 : Dc m_S_act 89 (.invokestatic 378) 3 92 := ⟨by decide +kernel, rfl⟩
set_option maxRecDepth 100000 in
theorem d_S_act_92 : Dc m_S_act 92 (.istore 6) 2 94 := ⟨by decide +kernel, rfl⟩
set_option maxRecDepth 100000 in
theorem d_S_act_94 : Dc m_S_act 94 (.aload_n 0) 1 95 := ⟨by decide +kernel, rfl⟩
set_option maxRecDepth 100000 in
theorem d_S_act_95 : Dc m_S_act 95 (.getfield 87) 3 98 := ⟨by decide +kernel, rfl⟩
set_option maxRecDepth 100000 in
theorem d_S_act_98 : Dc m_S_act 98 (.getfield 382) 3 101 := ⟨by decide +kernel, rfl⟩
set_option maxRecDepth 100000 in
theorem d_S_act_101 : Dj m_S_act 101 (.ifCond .eq) 104 109 := ⟨8, by decide +kernel, rfl, by decide⟩
set_option maxRecDepth 100000 in
theorem d_S_act_104 : Dc m_S_act 104 (.bipush (-15)) 2 106 := ⟨by decide +kernel, rfl⟩
set_option maxRecDepth 100000 in
theorem d_S_act_106 : Dj m_S_act 106 .goto 109 111 := ⟨5, by decide +kernel, rfl, by decide⟩
set_option maxRecDepth 100000 in
theorem d_S_act_109 : Dc m_S_act 109 (.iload 6) 2 111 := ⟨by decide +kernel, rfl⟩
set_option maxRecDepth 100000 in
theorem d_S_act_111 : Dc m_S_act 111 .ireturn 1 112 := ⟨by decide +kernel, rfl⟩
set_option maxRecDepth 100000 in
theorem d_S_trace_0 : Dc m_S_trace 0 (.iload_n 1) 1 1 := ⟨by decide +kernel, rfl⟩
set_option maxRecDepth 100000 in
theorem d_S_trace_1 : Dj m_S_trace 1 (.ifCond .lt) 4 15 := ⟨14, by decide +kernel, rfl, by decide⟩
set_option maxRecDepth 100000 in
theorem d_S_trace_4 : Dc m_S_trace 4 (.iload_n 1) 1 5 := ⟨by decide +kernel, rfl⟩
set_option maxRecDepth 100000 in
theorem d_S_trace_5 : Dc m_S_trace 5 (.aload_n 0) 1 6 := ⟨by decide +kernel, rfl⟩
set_option maxRecDepth 100000 in
theorem d_S_trace_6 : Dc m_S_trace 6 (.getfield 87) 3 9 := ⟨by decide +kernel, rfl⟩
set_option maxRecDepth 100000 in
theorem d_S_trace_9 : Dc m_S_trace 9 (.getfield 385) 3 12 := ⟨by decide +kernel, rfl⟩
set_option maxRecDepth 100000 in
theorem d_S_trace_12 : Dj m_S_trace 12 (.if_icmp .lt) 15 20 := ⟨8, by decide +kernel, rfl, by decide⟩
set_option maxRecDepth 100000 in
theorem d_S_trace_15 : Dc m_S_trace 15 (.bipush (-3)) 2 17 := ⟨by decide +kernel, rfl⟩
set_option maxRecDepth 100000 in
theorem d_S_trace_17 : Dj m_S_trace 17 .goto 20 29 := ⟨12, by decide +kernel, rfl, by decide⟩
set_option maxRecDepth 100000 in
theorem d_S_trace_20 : Dc m_S_trace 20 (.aload_n 0) 1 21 := ⟨by decide +kernel, rfl⟩
set_option maxRecDepth 100000 in
theorem d_S_trace_21 : Dc m_S_trace 21 (.getfield 87) 3 24 := ⟨by decide +kernel, rfl⟩
set_option maxRecDepth 100000 in
theorem d_S_trace_24 : Dc m_S_trace 24 (.getfield 386) 3 27 := ⟨by decide +kernel, rfl⟩
set_option maxRecDepth 100000 in
theorem d_S_trace_27 : Dc m_S_trace 27 (.iload_n 1) 1 28 := ⟨by decide +kernel, rfl⟩
set_option maxRecDepth 100000 in
theorem d_S_trace_28 : Dc m_S_trace 28 .iaload 1 29 := ⟨by decide +kernel, rfl⟩
set_option maxRecDepth 100000 in
theorem d_S_trace_29 : Dc m_S_trace 29 .ireturn 1 30 := ⟨by decide +kernel, rfl⟩
set_option maxRecDepth 100000 in
theorem d_S_many_0 : Dc m_S_many 0 (.iload_n 1) 1 1 := ⟨by decide +kernel, rfl⟩
set_option maxRecDepth 100000 in
theorem d_S_many_1 : Ts m_S_many 1 [(0, 36), (1, 44), (2, 55), (3, 63), (4, 71)] 79 := ⟨78, 0, 4, [35, 43, 54, 62, 70], 35, by decide +kernel, by decide, by decide +kernel⟩
set_option maxRecDepth 100000 in
theorem d_S_many_36 : Dc m_S_many 36 (.aload_n 0) 1 37 := ⟨by decide +kernel, rfl⟩
set_option maxRecDepth 100000 in
theorem d_S_many_37 : Dc m_S_many 37 (.getfield 12) 3 40 := ⟨by decide +kernel, rfl⟩
set_option maxRecDepth 100000 in
theorem d_S_many_40 : Dc m_S_many 40 (.getfield 122) 3 43 := ⟨by decide +kernel, rfl⟩
set_option maxRecDepth 100000 in
theorem d_S_many_43 : Dc m_S_many 43 .ireturn 1 44 := ⟨by decide +kernel, rfl⟩
set_option maxRecDepth 100000 in
theorem d_S_many_44 : Dc m_S_many 44 (.aload_n 0) 1 45 := ⟨by decide +kernel, rfl⟩
set_option maxRecDepth 100000 in
theorem d_S_many_45 : Dc m_S_many 45 (.getfield 12) 3 48 := ⟨by decide +kernel, rfl⟩
set_option maxRecDepth 100000 in
theorem d_S_many_48 : Dc m_S_many 48 (.getfield 108) 3 51 := ⟨by decide +kernel, rfl⟩
set_option maxRecDepth 100000 in
theorem d_S_many_51 : Dc m_S_many 51 (.getfield 115) 3 54 := ⟨by decide +kernel, rfl⟩
set_option maxRecDepth 100000 in
theorem d_S_many_54 : Dc m_S_many 54 .ireturn 1 55 := ⟨by decide +kernel, rfl⟩
set_option maxRecDepth 100000 in
theorem d_S_many_55 : Dc m_S_many 55 (.aload_n 0) 1 56 := ⟨by decide +kernel, rfl⟩
set_option maxRecDepth 100000 in
theorem d_S_many_56 : Dc m_S_many 56 (.getfield 65) 3 59 := ⟨by decide +kernel, rfl⟩
set_option maxRecDepth 100000 in
theorem d_S_many_59 : Dc m_S_many 59 (.getfield 302) 3 62 := ⟨by decide +kernel, rfl⟩
set_option maxRecDepth 100000 in
theorem d_S_many_62 : Dc m_S_many 62 .ireturn 1 63 := ⟨by decide +kernel, rfl⟩
set_option maxRecDepth 100000 in
theorem d_S_many_63 : Dc m_S_many 63 (.aload_n 0) 1 64 := ⟨by decide +kernel, rfl⟩
set_option maxRecDepth 100000 in
theorem d_S_many_64 : Dc m_S_many 64 (.getfield 26) 3 67 := ⟨by decide +kernel, rfl⟩
set_option maxRecDepth 100000 in
theorem d_S_many_67 : Dc m_S_many 67 (.getfield 93) 3 70 := ⟨by decide +kernel, rfl⟩
set_option maxRecDepth 100000 in
theorem d_S_many_70 : Dc m_S_many 70 .ireturn 1 71 := ⟨by decide +kernel, rfl⟩
set_option maxRecDepth 100000 in
theorem d_S_many_71 : Dc m_S_many 71 (.aload_n 0) 1 72 := ⟨by decide +kernel, rfl⟩
set_option maxRecDepth 100000 in
theorem d_S_many_72 : Dc m_S_many 72 (.getfield 87) 3 75 := ⟨by decide +kernel, rfl⟩
set_option maxRecDepth 100000 in
theorem d_S_many_75 : Dc m_S_many 75 (.getfield 385) 3 78 := ⟨by decide +kernel, rfl⟩
set_option maxRecDepth 100000 in
theorem d_S_many_78 : Dc m_S_many 78 .ireturn 1 79 := ⟨by decide +kernel, rfl⟩
set_option maxRecDepth 100000 in
theorem d_S_many_79 : Dc m_S_many 79 (.iconst (-1)) 1 80 := ⟨by decide +kernel, rfl⟩
set_option maxRecDepth 100000 in
theorem d_S_many_80 : Dc m_S_many 80 .ireturn 1 81 := ⟨by decide +kernel, rfl⟩
set_option maxRecDepth 100000 in
theorem d_S_keep_0 : Dc m_S_keep 0 (.aload_n 0) 1 1 := ⟨by decide +kernel, rfl⟩
set_option maxRecDepth 100000 in
theorem d_S_keep_1 : Dc m_S_keep 1 (.getfield 16) 3 4 := ⟨by decide +kernel, rfl⟩
set_option maxRecDepth 100000 in
theorem d_S_keep_4 : Dc m_S_keep 4 (.aload_n 0) 1 5 := ⟨by decide +kernel, rfl⟩
set_option maxRecDepth 100000 in
theorem d_S_keep_5 : Dc m_S_keep 5 (.getfield 12) 3 8 := ⟨by decide +kernel, rfl⟩
set_option maxRecDepth 100000 in
theorem d_S_keep_8 : Dc m_S_keep 8 (.invokevirtual 389) 3 11 := ⟨by decide +kernel, rfl⟩
set_option maxRecDepth 100000 in
theorem d_S_keep_11 : Dc m_S_keep 11 (.aload_n 0) 1 12 := ⟨by decide +kernel, rfl⟩
set_option maxRecDepth 100000 in
theorem d_S_keep_12 : Dc m_S_keep 12 (.iconst 1) 1 13 := ⟨by decide +kernel, rfl⟩
set_option maxRecDepth 100000 in
theorem d_S_keep_13 : Dc m_S_keep 13 (.putfield 19) 3 16 := ⟨by decide +kernel, rfl⟩
set_option maxRecDepth 100000 in
theorem d_S_keep_16 : Dc m_S_keep 16 (.iconst 1) 1 17 := ⟨by decide +kernel, rfl⟩
set_option maxRecDepth 100000 in
theorem d_S_keep_17 : Dc m_S_keep 17 .ireturn 1 18 := ⟨by decide +kernel, rfl⟩
set_option maxRecDepth 100000 in
theorem d_S_again_0 : Dc m_S_again 0 (.aload_n 0) 1 1 := ⟨by decide +kernel, rfl⟩
set_option maxRecDepth 100000 in
theorem d_S_again_1 : Dc m_S_again 1 (.getfield 19) 3 4 := ⟨by decide +kernel, rfl⟩
set_option maxRecDepth 100000 in
theorem d_S_again_4 : Dj m_S_again 4 (.ifCond .ne) 7 10 := ⟨6, by decide +kernel, rfl, by decide⟩
set_option maxRecDepth 100000 in
theorem d_S_again_7 : Dc m_S_again 7 (.bipush (-3)) 2 9 := ⟨by decide +kernel, rfl⟩
set_option maxRecDepth 100000 in
theorem d_S_again_9 : Dc m_S_again 9 .ireturn 1 10 := ⟨by decide +kernel, rfl⟩
set_option maxRecDepth 100000 in
theorem d_S_again_10 : Dc m_S_again 10 (.aload_n 0) 1 11 := ⟨by decide +kernel, rfl⟩
set_option maxRecDepth 100000 in
theorem d_S_again_11 : Dc m_S_again 11 (.getfield 12) 3 14 := ⟨by decide +kernel, rfl⟩
set_option maxRecDepth 100000 in
theorem d_S_again_14 : Dc m_S_again 14 (.aload_n 0) 1 15 := ⟨by decide +kernel, rfl⟩
set_option maxRecDepth 100000 in
theorem d_S_again_15 : Dc m_S_again 15 (.getfield 16) 3 18 := ⟨by decide +kernel, rfl⟩
set_option maxRecDepth 100000 in
theorem d_S_again_18 : Dc m_S_again 18 (.invokevirtual 389) 3 21 := ⟨by decide +kernel, rfl⟩
set_option maxRecDepth 100000 in
theorem d_S_again_21 : Dc m_S_again 21 (.aload_n 0) 1 22 := ⟨by decide +kernel, rfl⟩
set_option maxRecDepth 100000 in
theorem d_S_again_22 : Dc m_S_again 22 (.getfield 12) 3 25 := ⟨by decide +kernel, rfl⟩
set_option maxRecDepth 100000 in
theorem d_S_again_25 : Dc m_S_again 25 (.getfield 122) 3 28 := ⟨by decide +kernel, rfl⟩
set_option maxRecDepth 100000 in
theorem d_S_again_28 : Dc m_S_again 28 .ireturn 1 29 := ⟨by decide +kernel, rfl⟩
set_option maxRecDepth 100000 in
theorem d_S_isWithin_0 : Dc m_S_isWithin 0 (.iload_n 0) 1 1 := ⟨by decide +kernel, rfl⟩
set_option maxRecDepth 100000 in
theorem d_S_isWithin_1 : Dj m_S_isWithin 1 (.ifCond .lt) 4 13 := ⟨12, by decide +kernel, rfl, by decide⟩
set_option maxRecDepth 100000 in
theorem d_S_isWithin_4 : Dc m_S_isWithin 4 (.iload_n 0) 1 5 := ⟨by decide +kernel, rfl⟩
set_option maxRecDepth 100000 in
theorem d_S_isWithin_5 : Dc m_S_isWithin 5 (.iload_n 1) 1 6 := ⟨by decide +kernel, rfl⟩
set_option maxRecDepth 100000 in
theorem d_S_isWithin_6 : Dj m_S_isWithin 6 (.if_icmp .gt) 9 13 := ⟨7, by decide +kernel, rfl, by decide⟩
set_option maxRecDepth 100000 in
theorem d_S_isWithin_9 : Dc m_S_isWithin 9 (.iconst 1) 1 10 := ⟨by decide +kernel, rfl⟩
set_option maxRecDepth 100000 in
theorem d_S_isWithin_10 : Dj m_S_isWithin 10 .goto 13 14 := ⟨4, by decide +kernel, rfl, by decide⟩
set_option maxRecDepth 100000 in
theorem d_S_isWithin_13 : Dc m_S_isWithin 13 (.iconst 0) 1 14 := ⟨by decide +kernel, rfl⟩
set_option maxRecDepth 100000 in
theorem d_S_isWithin_14 : Dc m_S_isWithin 14 .ireturn 1 15 := ⟨by decide +kernel, rfl⟩
set_option maxRecDepth 100000 in
theorem d_S_isPair_0 : Dc m_S_isPair 0 (.iload_n 0) 1 1 := ⟨by decide +kernel, rfl⟩
set_option maxRecDepth 100000 in
theorem d_S_isPair_1 : Dj m_S_isPair 1 (.ifCond .lt) 4 14 := ⟨13, by decide +kernel, rfl, by decide⟩
set_option maxRecDepth 100000 in
theorem d_S_isPair_4 : Dc m_S_isPair 4 (.iload_n 0) 1 5 := ⟨by decide +kernel, rfl⟩
set_option maxRecDepth 100000 in
theorem d_S_isPair_5 : Dc m_S_isPair 5 (.bipush (36)) 2 7 := ⟨by decide +kernel, rfl⟩
set_option maxRecDepth 100000 in
theorem d_S_isPair_7 : Dj m_S_isPair 7 (.if_icmp .ge) 10 14 := ⟨7, by decide +kernel, rfl, by decide⟩
set_option maxRecDepth 100000 in
theorem d_S_isPair_10 : Dc m_S_isPair 10 (.iconst 1) 1 11 := ⟨by decide +kernel, rfl⟩
set_option maxRecDepth 100000 in
theorem d_S_isPair_11 : Dj m_S_isPair 11 .goto 14 15 := ⟨4, by decide +kernel, rfl, by decide⟩
set_option maxRecDepth 100000 in
theorem d_S_isPair_14 : Dc m_S_isPair 14 (.iconst 0) 1 15 := ⟨by decide +kernel, rfl⟩
set_option maxRecDepth 100000 in
theorem d_S_isPair_15 : Dc m_S_isPair 15 .ireturn 1 16 := ⟨by decide +kernel, rfl⟩
set_option maxRecDepth 100000 in
theorem d_S_isSeconds_0 : Dc m_S_isSeconds 0 (.iload_n 0) 1 1 := ⟨by decide +kernel, rfl⟩
set_option maxRecDepth 100000 in
theorem d_S_isSeconds_1 : Dc m_S_isSeconds 1 (.iconst 1) 1 2 := ⟨by decide +kernel, rfl⟩
set_option maxRecDepth 100000 in
theorem d_S_isSeconds_2 : Dj m_S_isSeconds 2 (.if_icmp .lt) 5 15 := ⟨13, by decide +kernel, rfl, by decide⟩
set_option maxRecDepth 100000 in
theorem d_S_isSeconds_5 : Dc m_S_isSeconds 5 (.iload_n 0) 1 6 := ⟨by decide +kernel, rfl⟩
set_option maxRecDepth 100000 in
theorem d_S_isSeconds_6 : Dc m_S_isSeconds 6 (.bipush (9)) 2 8 := ⟨by decide +kernel, rfl⟩
set_option maxRecDepth 100000 in
theorem d_S_isSeconds_8 : Dj m_S_isSeconds 8 (.if_icmp .gt) 11 15 := ⟨7, by decide +kernel, rfl, by decide⟩
set_option maxRecDepth 100000 in
theorem d_S_isSeconds_11 : Dc m_S_isSeconds 11 (.iconst 1) 1 12 := ⟨by decide +kernel, rfl⟩
set_option maxRecDepth 100000 in
theorem d_S_isSeconds_12 : Dj m_S_isSeconds 12 .goto 15 16 := ⟨4, by decide +kernel, rfl, by decide⟩
set_option maxRecDepth 100000 in
theorem d_S_isSeconds_15 : Dc m_S_isSeconds 15 (.iconst 0) 1 16 := ⟨by decide +kernel, rfl⟩
set_option maxRecDepth 100000 in
theorem d_S_isSeconds_16 : Dc m_S_isSeconds 16 .ireturn 1 17 := ⟨by decide +kernel, rfl⟩
set_option maxRecDepth 100000 in
theorem d_S_isSheet_0 : Dc m_S_isSheet 0 (.iload_n 0) 1 1 := ⟨by decide +kernel, rfl⟩
set_option maxRecDepth 100000 in
theorem d_S_isSheet_1 : Dj m_S_isSheet 1 (.ifCond .lt) 4 13 := ⟨12, by decide +kernel, rfl, by decide⟩
set_option maxRecDepth 100000 in
theorem d_S_isSheet_4 : Dc m_S_isSheet 4 (.iload_n 0) 1 5 := ⟨by decide +kernel, rfl⟩
set_option maxRecDepth 100000 in
theorem d_S_isSheet_5 : Dc m_S_isSheet 5 (.iconst 4) 1 6 := ⟨by decide +kernel, rfl⟩
set_option maxRecDepth 100000 in
theorem d_S_isSheet_6 : Dj m_S_isSheet 6 (.if_icmp .ge) 9 13 := ⟨7, by decide +kernel, rfl, by decide⟩
set_option maxRecDepth 100000 in
theorem d_S_isSheet_9 : Dc m_S_isSheet 9 (.iconst 1) 1 10 := ⟨by decide +kernel, rfl⟩
set_option maxRecDepth 100000 in
theorem d_S_isSheet_10 : Dj m_S_isSheet 10 .goto 13 14 := ⟨4, by decide +kernel, rfl, by decide⟩
set_option maxRecDepth 100000 in
theorem d_S_isSheet_13 : Dc m_S_isSheet 13 (.iconst 0) 1 14 := ⟨by decide +kernel, rfl⟩
set_option maxRecDepth 100000 in
theorem d_S_isSheet_14 : Dc m_S_isSheet 14 .ireturn 1 15 := ⟨by decide +kernel, rfl⟩
set_option maxRecDepth 100000 in
theorem d_S_isShelf_0 : Dc m_S_isShelf 0 (.iload_n 0) 1 1 := ⟨by decide +kernel, rfl⟩
set_option maxRecDepth 100000 in
theorem d_S_isShelf_1 : Dj m_S_isShelf 1 (.ifCond .lt) 4 13 := ⟨12, by decide +kernel, rfl, by decide⟩
set_option maxRecDepth 100000 in
theorem d_S_isShelf_4 : Dc m_S_isShelf 4 (.iload_n 0) 1 5 := ⟨by decide +kernel, rfl⟩
set_option maxRecDepth 100000 in
theorem d_S_isShelf_5 : Dc m_S_isShelf 5 (.iconst 4) 1 6 := ⟨by decide +kernel, rfl⟩
set_option maxRecDepth 100000 in
theorem d_S_isShelf_6 : Dj m_S_isShelf 6 (.if_icmp .ge) 9 13 := ⟨7, by decide +kernel, rfl, by decide⟩
set_option maxRecDepth 100000 in
theorem d_S_isShelf_9 : Dc m_S_isShelf 9 (.iconst 1) 1 10 := ⟨by decide +kernel, rfl⟩
set_option maxRecDepth 100000 in
theorem d_S_isShelf_10 : Dj m_S_isShelf 10 .goto 13 14 := ⟨4, by decide +kernel, rfl, by decide⟩
set_option maxRecDepth 100000 in
theorem d_S_isShelf_13 : Dc m_S_isShelf 13 (.iconst 0) 1 14 := ⟨by decide +kernel, rfl⟩
set_option maxRecDepth 100000 in
theorem d_S_isShelf_14 : Dc m_S_isShelf 14 .ireturn 1 15 := ⟨by decide +kernel, rfl⟩
set_option maxRecDepth 100000 in
theorem d_S_pairAt_0 : Dc m_S_pairAt 0 (.iload_n 0) 1 1 := ⟨by decide +kernel, rfl⟩
set_option maxRecDepth 100000 in
theorem d_S_pairAt_1 : Dc m_S_pairAt 1 (.iload_n 1) 1 2 := ⟨by decide +kernel, rfl⟩
set_option maxRecDepth 100000 in
theorem d_S_pairAt_2 : Dc m_S_pairAt 2 (.invokestatic 327) 3 5 := ⟨by decide +kernel, rfl⟩
set_option maxRecDepth 100000 in
theorem d_S_pairAt_5 : Dc m_S_pairAt 5 (.istore_n 2) 1 6 := ⟨by decide +kernel, rfl⟩
set_option maxRecDepth 100000 in
theorem d_S_pairAt_6 : Dc m_S_pairAt 6 (.iload_n 0) 1 7 := ⟨by decide +kernel, rfl⟩
set_option maxRecDepth 100000 in
theorem d_S_pairAt_7 : Dc m_S_pairAt 7 (.iload_n 1) 1 8 := ⟨by decide +kernel, rfl⟩
set_option maxRecDepth 100000 in
theorem d_S_pairAt_8 : Dc m_S_pairAt 8 (.invokestatic 332) 3 11 := ⟨by decide +kernel, rfl⟩
set_option maxRecDepth 100000 in
theorem d_S_pairAt_11 : Dc m_S_pairAt 11 (.istore_n 3) 1 12 := ⟨by decide +kernel, rfl⟩
set_option maxRecDepth 100000 in
theorem d_S_pairAt_12 : Dc m_S_pairAt 12 (.iload_n 2) 1 13 := ⟨by decide +kernel, rfl⟩
set_option maxRecDepth 100000 in
theorem d_S_pairAt_13 : Dc m_S_pairAt 13 (.iconst 2) 1 14 := ⟨by decide +kernel, rfl⟩
set_option maxRecDepth 100000 in
theorem d_S_pairAt_14 : Dj m_S_pairAt 14 (.if_icmp .lt) 17 23 := ⟨9, by decide +kernel, rfl, by decide⟩
set_option maxRecDepth 100000 in
theorem d_S_pairAt_17 : Dc m_S_pairAt 17 (.iload_n 3) 1 18 := ⟨by decide +kernel, rfl⟩
set_option maxRecDepth 100000 in
theorem d_S_pairAt_18 : Dc m_S_pairAt 18 (.bipush (9)) 2 20 := ⟨by decide +kernel, rfl⟩
set_option maxRecDepth 100000 in
theorem d_S_pairAt_20 : Dj m_S_pairAt 20 (.if_icmp .le) 23 25 := ⟨5, by decide +kernel, rfl, by decide⟩
set_option maxRecDepth 100000 in
theorem d_S_pairAt_23 : Dc m_S_pairAt 23 (.iconst (-1)) 1 24 := ⟨by decide +kernel, rfl⟩
set_option maxRecDepth 100000 in
theorem d_S_pairAt_24 : Dc m_S_pairAt 24 .ireturn 1 25 := ⟨by decide +kernel, rfl⟩
set_option maxRecDepth 100000 in
theorem d_S_pairAt_25 : Dc m_S_pairAt 25 (.iload_n 2) 1 26 := ⟨by decide +kernel, rfl⟩
set_option maxRecDepth 100000 in
theorem d_S_pairAt_26 : Dc m_S_pairAt 26 (.iconst 2) 1 27 := ⟨by decide +kernel, rfl⟩
set_option maxRecDepth 100000 in
theorem d_S_pairAt_27 : Dc m_S_pairAt 27 .isub 1 28 := ⟨by decide +kernel, rfl⟩
set_option maxRecDepth 100000 in
theorem d_S_pairAt_28 : Dc m_S_pairAt 28 (.bipush (19)) 2 30 := ⟨by decide +kernel, rfl⟩
set_option maxRecDepth 100000 in
theorem d_S_pairAt_30 : Dc m_S_pairAt 30 (.iload_n 2) 1 31 := ⟨by decide +kernel, rfl⟩
set_option maxRecDepth 100000 in
theorem d_S_pairAt_31 : Dc m_S_pairAt 31 .isub 1 32 := ⟨by decide +kernel, rfl⟩
set_option maxRecDepth 100000 in
theorem d_S_pairAt_32 : Dc m_S_pairAt 32 .imul 1 33 := ⟨by decide +kernel, rfl⟩
set_option maxRecDepth 100000 in
theorem d_S_pairAt_33 : Dc m_S_pairAt 33 (.iconst 2) 1 34 := ⟨by decide +kernel, rfl⟩
set_option maxRecDepth 100000 in
theorem d_S_pairAt_34 : Dc m_S_pairAt 34 .idiv 1 35 := ⟨by decide +kernel, rfl⟩
set_option maxRecDepth 100000 in
theorem d_S_pairAt_35 : Dc m_S_pairAt 35 (.iload_n 3) 1 36 := ⟨by decide +kernel, rfl⟩
set_option maxRecDepth 100000 in
theorem d_S_pairAt_36 : Dc m_S_pairAt 36 .iadd 1 37 := ⟨by decide +kernel, rfl⟩
set_option maxRecDepth 100000 in
theorem d_S_pairAt_37 : Dc m_S_pairAt 37 (.iload_n 2) 1 38 := ⟨by decide +kernel, rfl⟩
set_option maxRecDepth 100000 in
theorem d_S_pairAt_38 : Dc m_S_pairAt 38 .isub 1 39 := ⟨by decide +kernel, rfl⟩
set_option maxRecDepth 100000 in
theorem d_S_pairAt_39 : Dc m_S_pairAt 39 .ireturn 1 40 := ⟨by decide +kernel, rfl⟩
set_option maxRecDepth 100000 in
theorem d_S_product_0 : Dc m_S_product 0 (.getstatic 148) 3 3 := ⟨by decide +kernel, rfl⟩
set_option maxRecDepth 100000 in
theorem d_S_product_3 : Dc m_S_product 3 (.iload_n 0) 1 4 := ⟨by decide +kernel, rfl⟩
set_option maxRecDepth 100000 in
theorem d_S_product_4 : Dc m_S_product 4 .iaload 1 5 := ⟨by decide +kernel, rfl⟩
set_option maxRecDepth 100000 in
theorem d_S_product_5 : Dc m_S_product 5 (.getstatic 151) 3 8 := ⟨by decide +kernel, rfl⟩
set_option maxRecDepth 100000 in
theorem d_S_product_8 : Dc m_S_product 8 (.iload_n 0) 1 9 := ⟨by decide +kernel, rfl⟩
set_option maxRecDepth 100000 in
theorem d_S_product_9 : Dc m_S_product 9 .iaload 1 10 := ⟨by decide +kernel, rfl⟩
set_option maxRecDepth 100000 in
theorem d_S_product_10 : Dc m_S_product 10 .imul 1 11 := ⟨by decide +kernel, rfl⟩
set_option maxRecDepth 100000 in
theorem d_S_product_11 : Dc m_S_product 11 .ireturn 1 12 := ⟨by decide +kernel, rfl⟩
set_option maxRecDepth 100000 in
theorem d_S_nextDoor_0 : Dc m_S_nextDoor 0 (.getstatic 148) 3 3 := ⟨by decide +kernel, rfl⟩
set_option maxRecDepth 100000 in
theorem d_S_nextDoor_3 : Dc m_S_nextDoor 3 (.iload_n 0) 1 4 := ⟨by decide +kernel, rfl⟩
set_option maxRecDepth 100000 in
theorem d_S_nextDoor_4 : Dc m_S_nextDoor 4 .iaload 1 5 := ⟨by decide +kernel, rfl⟩
set_option maxRecDepth 100000 in
theorem d_S_nextDoor_5 : Dc m_S_nextDoor 5 (.istore_n 2) 1 6 := ⟨by decide +kernel, rfl⟩
set_option maxRecDepth 100000 in
theorem d_S_nextDoor_6 : Dc m_S_nextDoor 6 (.getstatic 151) 3 9 := ⟨by decide +kernel, rfl⟩
set_option maxRecDepth 100000 in
theorem d_S_nextDoor_9 : Dc m_S_nextDoor 9 (.iload_n 0) 1 10 := ⟨by decide +kernel, rfl⟩
set_option maxRecDepth 100000 in
theorem d_S_nextDoor_10 : Dc m_S_nextDoor 10 .iaload 1 11 := ⟨by decide +kernel, rfl⟩
set_option maxRecDepth 100000 in
theorem d_S_nextDoor_11 : Dc m_S_nextDoor 11 (.istore_n 3) 1 12 := ⟨by decide +kernel, rfl⟩
set_option maxRecDepth 100000 in
theorem d_S_nextDoor_12 : Dc m_S_nextDoor 12 (.iload_n 1) 1 13 := ⟨by decide +kernel, rfl⟩
set_option maxRecDepth 100000 in
theorem d_S_nextDoor_13 : Ts m_S_nextDoor 13 [(0, 40), (1, 48), (2, 56)] 64 := ⟨51, 0, 2, [27, 35, 43], 27, by decide +kernel, by decide, by decide +kernel⟩
set_option maxRecDepth 100000 in
theorem d_S_nextDoor_40 : Dc m_S_nextDoor 40 (.iload_n 2) 1 41 := ⟨by decide +kernel, rfl⟩
set_option maxRecDepth 100000 in
theorem d_S_nextDoor_41 : Dc m_S_nextDoor 41 (.iconst 1) 1 42 := ⟨by decide +kernel, rfl⟩
set_option maxRecDepth 100000 in
theorem d_S_nextDoor_42 : Dc m_S_nextDoor 42 .isub 1 43 := ⟨by decide +kernel, rfl⟩
set_option maxRecDepth 100000 in
theorem d_S_nextDoor_43 : Dc m_S_nextDoor 43 (.iload_n 3) 1 44 := ⟨by decide +kernel, rfl⟩
set_option maxRecDepth 100000 in
theorem d_S_nextDoor_44 : Dc m_S_nextDoor 44 (.invokestatic 141) 3 47 := ⟨by decide +kernel, rfl⟩
set_option maxRecDepth 100000 in
theorem d_S_nextDoor_47 : Dc m_S_nextDoor 47 .ireturn 1 48 := ⟨by decide +kernel, rfl⟩
set_option maxRecDepth 100000 in
theorem d_S_nextDoor_48 : Dc m_S_nextDoor 48 (.iload_n 2) 1 49 := ⟨by decide +kernel, rfl⟩
set_option maxRecDepth 100000 in
theorem d_S_nextDoor_49 : Dc m_S_nextDoor 49 (.iconst 1) 1 50 := ⟨by decide +kernel, rfl⟩
set_option maxRecDepth 100000 in
theorem d_S_nextDoor_50 : Dc m_S_nextDoor 50 .iadd 1 51 := ⟨by decide +kernel, rfl⟩
set_option maxRecDepth 100000 in
theorem d_S_nextDoor_51 : Dc m_S_nextDoor 51 (.iload_n 3) 1 52 := ⟨by decide +kernel, rfl⟩
set_option maxRecDepth 100000 in
theorem d_S_nextDoor_52 : Dc m_S_nextDoor 52 (.invokestatic 141) 3 55 := ⟨by decide +kernel, rfl⟩
set_option maxRecDepth 100000 in
theorem d_S_nextDoor_55 : Dc m_S_nextDoor 55 .ireturn 1 56 := ⟨by decide +kernel, rfl⟩
set_option maxRecDepth 100000 in
theorem d_S_nextDoor_56 : Dc m_S_nextDoor 56 (.iload_n 2) 1 57 := ⟨by decide +kernel, rfl⟩
set_option maxRecDepth 100000 in
theorem d_S_nextDoor_57 : Dc m_S_nextDoor 57 (.iload_n 3) 1 58 := ⟨by decide +kernel, rfl⟩
set_option maxRecDepth 100000 in
theorem d_S_nextDoor_58 : Dc m_S_nextDoor 58 (.iconst 1) 1 59 := ⟨by decide +kernel, rfl⟩
set_option maxRecDepth 100000 in
theorem d_S_nextDoor_59 : Dc m_S_nextDoor 59 .isub 1 60 := ⟨by decide +kernel, rfl⟩
set_option maxRecDepth 100000 in
theorem d_S_nextDoor_60 : Dc m_S_nextDoor 60 (.invokestatic 141) 3 63 := ⟨by decide +kernel, rfl⟩
set_option maxRecDepth 100000 in
theorem d_S_nextDoor_63 : Dc m_S_nextDoor 63 .ireturn 1 64 := ⟨by decide +kernel, rfl⟩
set_option maxRecDepth 100000 in
theorem d_S_nextDoor_64 : Dc m_S_nextDoor 64 (.iload_n 2) 1 65 := ⟨by decide +kernel, rfl⟩
set_option maxRecDepth 100000 in
theorem d_S_nextDoor_65 : Dc m_S_nextDoor 65 (.iload_n 3) 1 66 := ⟨by decide +kernel, rfl⟩
set_option maxRecDepth 100000 in
theorem d_S_nextDoor_66 : Dc m_S_nextDoor 66 (.iconst 1) 1 67 := ⟨by decide +kernel, rfl⟩
set_option maxRecDepth 100000 in
theorem d_S_nextDoor_67 : Dc m_S_nextDoor 67 .iadd 1 68 := ⟨by decide +kernel, rfl⟩
set_option maxRecDepth 100000 in
theorem d_S_nextDoor_68 : Dc m_S_nextDoor 68 (.invokestatic 141) 3 71 := ⟨by decide +kernel, rfl⟩
set_option maxRecDepth 100000 in
theorem d_S_nextDoor_71 : Dc m_S_nextDoor 71 .ireturn 1 72 := ⟨by decide +kernel, rfl⟩
set_option maxRecDepth 100000 in
theorem d_S_firmAtFirst_0 : Dc m_S_firmAtFirst 0 (.getstatic 148) 3 3 := ⟨by decide +kernel, rfl⟩
set_option maxRecDepth 100000 in
theorem d_S_firmAtFirst_3 : Dc m_S_firmAtFirst 3 (.iload_n 0) 1 4 := ⟨by decide +kernel, rfl⟩
set_option maxRecDepth 100000 in
theorem d_S_firmAtFirst_4 : Dc m_S_firmAtFirst 4 .iaload 1 5 := ⟨by decide +kernel, rfl⟩
set_option maxRecDepth 100000 in
theorem d_S_firmAtFirst_5 : Dc m_S_firmAtFirst 5 (.istore_n 1) 1 6 := ⟨by decide +kernel, rfl⟩
set_option maxRecDepth 100000 in
theorem d_S_firmAtFirst_6 : Dc m_S_firmAtFirst 6 (.getstatic 151) 3 9 := ⟨by decide +kernel, rfl⟩
set_option maxRecDepth 100000 in
theorem d_S_firmAtFirst_9 : Dc m_S_firmAtFirst 9 (.iload_n 0) 1 10 := ⟨by decide +kernel, rfl⟩
set_option maxRecDepth 100000 in
theorem d_S_firmAtFirst_10 : Dc m_S_firmAtFirst 10 .iaload 1 11 := ⟨by decide +kernel, rfl⟩
set_option maxRecDepth 100000 in
theorem d_S_firmAtFirst_11 : Dc m_S_firmAtFirst 11 (.istore_n 2) 1 12 := ⟨by decide +kernel, rfl⟩
set_option maxRecDepth 100000 in
theorem d_S_firmAtFirst_12 : Dc m_S_firmAtFirst 12 (.iload_n 1) 1 13 := ⟨by decide +kernel, rfl⟩
set_option maxRecDepth 100000 in
theorem d_S_firmAtFirst_13 : Dc m_S_firmAtFirst 13 (.iconst 2) 1 14 := ⟨by decide +kernel, rfl⟩
set_option maxRecDepth 100000 in
theorem d_S_firmAtFirst_14 : Dj m_S_firmAtFirst 14 (.if_icmp .ne) 17 20 := ⟨6, by decide +kernel, rfl, by decide⟩
set_option maxRecDepth 100000 in
theorem d_S_firmAtFirst_17 : Dc m_S_firmAtFirst 17 (.bipush (80)) 2 19 := ⟨by decide +kernel, rfl⟩
set_option maxRecDepth 100000 in
theorem d_S_firmAtFirst_19 : Dc m_S_firmAtFirst 19 .ireturn 1 20 := ⟨by decide +kernel, rfl⟩
set_option maxRecDepth 100000 in
theorem d_S_firmAtFirst_20 : Dc m_S_firmAtFirst 20 (.iload_n 1) 1 21 := ⟨by decide +kernel, rfl⟩
set_option maxRecDepth 100000 in
theorem d_S_firmAtFirst_21 : Dc m_S_firmAtFirst 21 (.iconst 5) 1 22 := ⟨by decide +kernel, rfl⟩
set_option maxRecDepth 100000 in
theorem d_S_firmAtFirst_22 : Dj m_S_firmAtFirst 22 (.if_icmp .eq) 25 30 := ⟨8, by decide +kernel, rfl, by decide⟩
set_option maxRecDepth 100000 in
theorem d_S_firmAtFirst_25 : Dc m_S_firmAtFirst 25 (.iload_n 2) 1 26 := ⟨by decide +kernel, rfl⟩
set_option maxRecDepth 100000 in
theorem d_S_firmAtFirst_26 : Dc m_S_firmAtFirst 26 (.iconst 5) 1 27 := ⟨by decide +kernel, rfl⟩
set_option maxRecDepth 100000 in
theorem d_S_firmAtFirst_27 : Dj m_S_firmAtFirst 27 (.if_icmp .ne) 30 33 := ⟨6, by decide +kernel, rfl, by decide⟩
set_option maxRecDepth 100000 in
theorem d_S_firmAtFirst_30 : Dc m_S_firmAtFirst 30 (.bipush (70)) 2 32 := ⟨by decide +kernel, rfl⟩
set_option maxRecDepth 100000 in
theorem d_S_firmAtFirst_32 : Dc m_S_firmAtFirst 32 .ireturn 1 33 := ⟨by decide +kernel, rfl⟩
set_option maxRecDepth 100000 in
theorem d_S_firmAtFirst_33 : Dc m_S_firmAtFirst 33 (.iload_n 1) 1 34 := ⟨by decide +kernel, rfl⟩
set_option maxRecDepth 100000 in
theorem d_S_firmAtFirst_34 : Dc m_S_firmAtFirst 34 (.iload_n 2) 1 35 := ⟨by decide +kernel, rfl⟩
set_option maxRecDepth 100000 in
theorem d_S_firmAtFirst_35 : Dj m_S_firmAtFirst 35 (.if_icmp .ne) 38 41 := ⟨6, by decide +kernel, rfl, by decide⟩
set_option maxRecDepth 100000 in
theorem d_S_firmAtFirst_38 : Dc m_S_firmAtFirst 38 (.bipush (60)) 2 40 := ⟨by decide +kernel, rfl⟩
set_option maxRecDepth 100000 in
theorem d_S_firmAtFirst_40 : Dc m_S_firmAtFirst 40 .ireturn 1 41 := ⟨by decide +kernel, rfl⟩
set_option maxRecDepth 100000 in
theorem d_S_firmAtFirst_41 : Dc m_S_firmAtFirst 41 (.bipush (60)) 2 43 := ⟨by decide +kernel, rfl⟩
set_option maxRecDepth 100000 in
theorem d_S_firmAtFirst_43 : Dc m_S_firmAtFirst 43 (.iload_n 1) 1 44 := ⟨by decide +kernel, rfl⟩
set_option maxRecDepth 100000 in
theorem d_S_firmAtFirst_44 : Dc m_S_firmAtFirst 44 (.iload_n 2) 1 45 := ⟨by decide +kernel, rfl⟩
set_option maxRecDepth 100000 in
theorem d_S_firmAtFirst_45 : Dc m_S_firmAtFirst 45 .imul 1 46 := ⟨by decide +kernel, rfl⟩
set_option maxRecDepth 100000 in
theorem d_S_firmAtFirst_46 : Dc m_S_firmAtFirst 46 (.iconst 2) 1 47 := ⟨by decide +kernel, rfl⟩
set_option maxRecDepth 100000 in
theorem d_S_firmAtFirst_47 : Dc m_S_firmAtFirst 47 .idiv 1 48 := ⟨by decide +kernel, rfl⟩
set_option maxRecDepth 100000 in
theorem d_S_firmAtFirst_48 : Dc m_S_firmAtFirst 48 .isub 1 49 := ⟨by decide +kernel, rfl⟩
set_option maxRecDepth 100000 in
theorem d_S_firmAtFirst_49 : Dc m_S_firmAtFirst 49 .ireturn 1 50 := ⟨by decide +kernel, rfl⟩
set_option maxRecDepth 100000 in
theorem d_S_firmWhenTold_0 : Dc m_S_firmWhenTold 0 (.bipush (100)) 2 2 := ⟨by decide +kernel, rfl⟩
set_option maxRecDepth 100000 in
theorem d_S_firmWhenTold_2 : Dc m_S_firmWhenTold 2 (.iload_n 0) 1 3 := ⟨by decide +kernel, rfl⟩
set_option maxRecDepth 100000 in
theorem d_S_firmWhenTold_3 : Dc m_S_firmWhenTold 3 (.bipush (100)) 2 5 := ⟨by decide +kernel, rfl⟩
set_option maxRecDepth 100000 in
theorem d_S_firmWhenTold_5 : Dc m_S_firmWhenTold 5 (.iload_n 0) 1 6 := ⟨by decide +kernel, rfl⟩
set_option maxRecDepth 100000 in
theorem d_S_firmWhenTold_6 : Dc m_S_firmWhenTold 6 .isub 1 7 := ⟨by decide +kernel, rfl⟩
set_option maxRecDepth 100000 in
theorem d_S_firmWhenTold_7 : Dc m_S_firmWhenTold 7 (.bipush (6)) 2 9 := ⟨by decide +kernel, rfl⟩
set_option maxRecDepth 100000 in
theorem d_S_firmWhenTold_9 : Dc m_S_firmWhenTold 9 .idiv 1 10 := ⟨by decide +kernel, rfl⟩
set_option maxRecDepth 100000 in
theorem d_S_firmWhenTold_10 : Dc m_S_firmWhenTold 10 .iadd 1 11 := ⟨by decide +kernel, rfl⟩
set_option maxRecDepth 100000 in
theorem d_S_firmWhenTold_11 : Dc m_S_firmWhenTold 11 (.iconst 1) 1 12 := ⟨by decide +kernel, rfl⟩
set_option maxRecDepth 100000 in
theorem d_S_firmWhenTold_12 : Dc m_S_firmWhenTold 12 .iadd 1 13 := ⟨by decide +kernel, rfl⟩
set_option maxRecDepth 100000 in
theorem d_S_firmWhenTold_13 : Dc m_S_firmWhenTold 13 (.invokestatic 327) 3 16 := ⟨by decide +kernel, rfl⟩
set_option maxRecDepth 100000 in
theorem d_S_firmWhenTold_16 : Dc m_S_firmWhenTold 16 .ireturn 1 17 := ⟨by decide +kernel, rfl⟩
set_option maxRecDepth 100000 in
theorem d_S_firmBehindNights_0 : Dc m_S_firmBehindNights 0 (.iload_n 0) 1 1 := ⟨by decide +kernel, rfl⟩
set_option maxRecDepth 100000 in
theorem d_S_firmBehindNights_1 : Dc m_S_firmBehindNights 1 (.istore 4) 2 3 := ⟨by decide +kernel, rfl⟩
set_option maxRecDepth 100000 in
theorem d_S_firmBehindNights_3 : Dc m_S_firmBehindNights 3 (.iconst 0) 1 4 := ⟨by decide +kernel, rfl⟩
set_option maxRecDepth 100000 in
theorem d_S_firmBehindNights_4 : Dc m_S_firmBehindNights 4 (.istore 5) 2 6 := ⟨by decide +kernel, rfl⟩
set_option maxRecDepth 100000 in
theorem d_S_firmBehindNights_6 : Dc m_S_firmBehindNights 6 (.iload 5) 2 8 := ⟨by decide +kernel, rfl⟩
set_option maxRecDepth 100000 in
theorem d_S_firmBehindNights_8 : Dc m_S_firmBehindNights 8 (.iload_n 2) 1 9 := ⟨by decide +kernel, rfl⟩
set_option maxRecDepth 100000 in
theorem d_S_firmBehindNights_9 : Dj m_S_firmBehindNights 9 (.if_icmp .ge) 12 34 := ⟨25, by decide +kernel, rfl, by decide⟩
set_option maxRecDepth 100000 in
theorem d_S_firmBehindNights_12 : Dc m_S_firmBehindNights 12 (.iload 4) 2 14 := ⟨by decide +kernel, rfl⟩
set_option maxRecDepth 100000 in
theorem d_S_firmBehindNights_14 : Dc m_S_firmBehindNights 14 (.iload 4) 2 16 := ⟨by decide +kernel, rfl⟩
set_option maxRecDepth 100000 in
theorem d_S_firmBehindNights_16 : Dc m_S_firmBehindNights 16 (.iload_n 3) 1 17 := ⟨by decide +kernel, rfl⟩
set_option maxRecDepth 100000 in
theorem d_S_firmBehindNights_17 : Dc m_S_firmBehindNights 17 .imul 1 18 := ⟨by decide +kernel, rfl⟩
set_option maxRecDepth 100000 in
theorem d_S_firmBehindNights_18 : Dc m_S_firmBehindNights 18 (.bipush (100)) 2 20 := ⟨by decide +kernel, rfl⟩
set_option maxRecDepth 100000 in
theorem d_S_firmBehindNights_20 : Dc m_S_firmBehindNights 20 (.iload_n 1) 1 21 := ⟨by decide +kernel, rfl⟩
set_option maxRecDepth 100000 in
theorem d_S_firmBehindNights_21 : Dc m_S_firmBehindNights 21 (.iconst 1) 1 22 := ⟨by decide +kernel, rfl⟩
set_option maxRecDepth 100000 in
theorem d_S_firmBehindNights_22 : Dc m_S_firmBehindNights 22 .iadd 1 23 := ⟨by decide +kernel, rfl⟩
set_option maxRecDepth 100000 in
theorem d_S_firmBehindNights_23 : Dc m_S_firmBehindNights 23 .imul 1 24 := ⟨by decide +kernel, rfl⟩
set_option maxRecDepth 100000 in
theorem d_S_firmBehindNights_24 : Dc m_S_firmBehindNights 24 .idiv 1 25 := ⟨by decide +kernel, rfl⟩
set_option maxRecDepth 100000 in
theorem d_S_firmBehindNights_25 : Dc m_S_firmBehindNights 25 .isub 1 26 := ⟨by decide +kernel, rfl⟩
set_option maxRecDepth 100000 in
theorem d_S_firmBehindNights_26 : Dc m_S_firmBehindNights 26 (.istore 4) 2 28 := ⟨by decide +kernel, rfl⟩
set_option maxRecDepth 100000 in
theorem d_S_firmBehindNights_28 : Dc m_S_firmBehindNights 28 (.iinc 5 (1)) 3 31 := ⟨by decide +kernel, rfl⟩
set_option maxRecDepth 100000 in
theorem d_S_firmBehindNights_31 : Dj m_S_firmBehindNights 31 .goto 34 6 := ⟨-25, by decide +kernel, rfl, by decide⟩
set_option maxRecDepth 100000 in
theorem d_S_firmBehindNights_34 : Dc m_S_firmBehindNights 34 (.iload 4) 2 36 := ⟨by decide +kernel, rfl⟩
set_option maxRecDepth 100000 in
theorem d_S_firmBehindNights_36 : Dc m_S_firmBehindNights 36 .ireturn 1 37 := ⟨by decide +kernel, rfl⟩
set_option maxRecDepth 100000 in
theorem d_S_commonDivisor_0 : Dc m_S_commonDivisor 0 (.iload_n 1) 1 1 := ⟨by decide +kernel, rfl⟩
set_option maxRecDepth 100000 in
theorem d_S_commonDivisor_1 : Dc m_S_commonDivisor 1 (.istore_n 2) 1 2 := ⟨by decide +kernel, rfl⟩
set_option maxRecDepth 100000 in
theorem d_S_commonDivisor_2 : Dc m_S_commonDivisor 2 (.iload_n 2) 1 3 := ⟨by decide +kernel, rfl⟩
set_option maxRecDepth 100000 in
theorem d_S_commonDivisor_3 : Dc m_S_commonDivisor 3 (.iconst 1) 1 4 := ⟨by decide +kernel, rfl⟩
set_option maxRecDepth 100000 in
theorem d_S_commonDivisor_4 : Dj m_S_commonDivisor 4 (.if_icmp .le) 7 27 := ⟨23, by decide +kernel, rfl, by decide⟩
set_option maxRecDepth 100000 in
theorem d_S_commonDivisor_7 : Dc m_S_commonDivisor 7 (.iload_n 0) 1 8 := ⟨by decide +kernel, rfl⟩
set_option maxRecDepth 100000 in
theorem d_S_commonDivisor_8 : Dc m_S_commonDivisor 8 (.iload_n 2) 1 9 := ⟨by decide +kernel, rfl⟩
set_option maxRecDepth 100000 in
theorem d_S_commonDivisor_9 : Dc m_S_commonDivisor 9 .irem 1 10 := ⟨by decide +kernel, rfl⟩
set_option maxRecDepth 100000 in
theorem d_S_commonDivisor_10 : Dj m_S_commonDivisor 10 (.ifCond .ne) 13 21 := ⟨11, by decide +kernel, rfl, by decide⟩
set_option maxRecDepth 100000 in
theorem d_S_commonDivisor_13 : Dc m_S_commonDivisor 13 (.iload_n 1) 1 14 := ⟨by decide +kernel, rfl⟩
set_option maxRecDepth 100000 in
theorem d_S_commonDivisor_14 : Dc m_S_commonDivisor 14 (.iload_n 2) 1 15 := ⟨by decide +kernel, rfl⟩
set_option maxRecDepth 100000 in
theorem d_S_commonDivisor_15 : Dc m_S_commonDivisor 15 .irem 1 16 := ⟨by decide +kernel, rfl⟩
set_option maxRecDepth 100000 in
theorem d_S_commonDivisor_16 : Dj m_S_commonDivisor 16 (.ifCond .ne) 19 21 := ⟨5, by decide +kernel, rfl, by decide⟩
set_option maxRecDepth 100000 in
theorem d_S_commonDivisor_19 : Dc m_S_commonDivisor 19 (.iload_n 2) 1 20 := ⟨by decide +kernel, rfl⟩
set_option maxRecDepth 100000 in
theorem d_S_commonDivisor_20 : Dc m_S_commonDivisor 20 .ireturn 1 21 := ⟨by decide +kernel, rfl⟩
set_option maxRecDepth 100000 in
theorem d_S_commonDivisor_21 : Dc m_S_commonDivisor 21 (.iinc 2 (-1)) 3 24 := ⟨by decide +kernel, rfl⟩
set_option maxRecDepth 100000 in
theorem d_S_commonDivisor_24 : Dj m_S_commonDivisor 24 .goto 27 2 := ⟨-22, by decide +kernel, rfl, by decide⟩
set_option maxRecDepth 100000 in
theorem d_S_commonDivisor_27 : Dc m_S_commonDivisor 27 (.iconst 1) 1 28 := ⟨by decide +kernel, rfl⟩
set_option maxRecDepth 100000 in
theorem d_S_commonDivisor_28 : Dc m_S_commonDivisor 28 .ireturn 1 29 := ⟨by decide +kernel, rfl⟩
set_option maxRecDepth 100000 in
theorem d_S_isUnder_0 : Dc m_S_isUnder 0 (.iload_n 0) 1 1 := ⟨by decide +kernel, rfl⟩
set_option maxRecDepth 100000 in
theorem d_S_isUnder_1 : Dc m_S_isUnder 1 (.istore_n 2) 1 2 := ⟨by decide +kernel, rfl⟩
set_option maxRecDepth 100000 in
theorem d_S_isUnder_2 : Dc m_S_isUnder 2 (.iconst 0) 1 3 := ⟨by decide +kernel, rfl⟩
set_option maxRecDepth 100000 in
theorem d_S_isUnder_3 : Dc m_S_isUnder 3 (.istore_n 3) 1 4 := ⟨by decide +kernel, rfl⟩
set_option maxRecDepth 100000 in
theorem d_S_isUnder_4 : Dc m_S_isUnder 4 (.iload_n 3) 1 5 := ⟨by decide +kernel, rfl⟩
set_option maxRecDepth 100000 in
theorem d_S_isUnder_5 : Dc m_S_isUnder 5 (.bipush (6)) 2 7 := ⟨by decide +kernel, rfl⟩
set_option maxRecDepth 100000 in
theorem d_S_isUnder_7 : Dj m_S_isUnder 7 (.if_icmp .ge) 10 33 := ⟨26, by decide +kernel, rfl, by decide⟩
set_option maxRecDepth 100000 in
theorem d_S_isUnder_10 : Dc m_S_isUnder 10 (.iload_n 2) 1 11 := ⟨by decide +kernel, rfl⟩
set_option maxRecDepth 100000 in
theorem d_S_isUnder_11 : Dj m_S_isUnder 11 (.ifCond .lt) 14 33 := ⟨22, by decide +kernel, rfl, by decide⟩
set_option maxRecDepth 100000 in
theorem d_S_isUnder_14 : Dc m_S_isUnder 14 (.iload_n 2) 1 15 := ⟨by decide +kernel, rfl⟩
set_option maxRecDepth 100000 in
theorem d_S_isUnder_15 : Dc m_S_isUnder 15 (.iload_n 1) 1 16 := ⟨by decide +kernel, rfl⟩
set_option maxRecDepth 100000 in
theorem d_S_isUnder_16 : Dj m_S_isUnder 16 (.if_icmp .ne) 19 21 := ⟨5, by decide +kernel, rfl, by decide⟩
set_option maxRecDepth 100000 in
theorem d_S_isUnder_19 : Dc m_S_isUnder 19 (.iconst 1) 1 20 := ⟨by decide +kernel, rfl⟩
set_option maxRecDepth 100000 in
theorem d_S_isUnder_20 : Dc m_S_isUnder 20 .ireturn 1 21 := ⟨by decide +kernel, rfl⟩
set_option maxRecDepth 100000 in
theorem d_S_isUnder_21 : Dc m_S_isUnder 21 (.getstatic 392) 3 24 := ⟨by decide +kernel, rfl⟩
set_option maxRecDepth 100000 in
theorem d_S_isUnder_24 : Dc m_S_isUnder 24 (.iload_n 2) 1 25 := ⟨by decide +kernel, rfl⟩
set_option maxRecDepth 100000 in
theorem d_S_isUnder_25 : Dc m_S_isUnder 25 .iaload 1 26 := ⟨by decide +kernel, rfl⟩
set_option maxRecDepth 100000 in
theorem d_S_isUnder_26 : Dc m_S_isUnder 26 (.istore_n 2) 1 27 := ⟨by decide +kernel, rfl⟩
set_option maxRecDepth 100000 in
theorem d_S_isUnder_27 : Dc m_S_isUnder 27 (.iinc 3 (1)) 3 30 := ⟨by decide +kernel, rfl⟩
set_option maxRecDepth 100000 in
theorem d_S_isUnder_30 : Dj m_S_isUnder 30 .goto 33 4 := ⟨-26, by decide +kernel, rfl, by decide⟩
set_option maxRecDepth 100000 in
theorem d_S_isUnder_33 : Dc m_S_isUnder 33 (.iconst 0) 1 34 := ⟨by decide +kernel, rfl⟩
set_option maxRecDepth 100000 in
theorem d_S_isUnder_34 : Dc m_S_isUnder 34 .ireturn 1 35 := ⟨by decide +kernel, rfl⟩
set_option maxRecDepth 100000 in
theorem d_S_knownSet_0 : Dc m_S_knownSet 0 (.lconst 0) 1 1 := ⟨by decide +kernel, rfl⟩
set_option maxRecDepth 100000 in
theorem d_S_knownSet_1 : Dc m_S_knownSet 1 (.lstore_n 3) 1 2 := ⟨by decide +kernel, rfl⟩
set_option maxRecDepth 100000 in
theorem d_S_knownSet_2 : Dc m_S_knownSet 2 (.iconst 0) 1 3 := ⟨by decide +kernel, rfl⟩
set_option maxRecDepth 100000 in
theorem d_S_knownSet_3 : Dc m_S_knownSet 3 (.istore 5) 2 5 := ⟨by decide +kernel, rfl⟩
set_option maxRecDepth 100000 in
theorem d_S_knownSet_5 : Dc m_S_knownSet 5 (.iload 5) 2 7 := ⟨by decide +kernel, rfl⟩
set_option maxRecDepth 100000 in
theorem d_S_knownSet_7 : Dc m_S_knownSet 7 (.bipush (36)) 2 9 := ⟨by decide +kernel, rfl⟩
set_option maxRecDepth 100000 in
theorem d_S_knownSet_9 : Dj m_S_knownSet 9 (.if_icmp .ge) 12 53 := ⟨44, by decide +kernel, rfl, by decide⟩
set_option maxRecDepth 100000 in
theorem d_S_knownSet_12 : Dc m_S_knownSet 12 (.aload_n 0) 1 13 := ⟨by decide +kernel, rfl⟩
set_option maxRecDepth 100000 in
theorem d_S_knownSet_13 : Dc m_S_knownSet 13 (.getfield 47) 3 16 := ⟨by decide +kernel, rfl⟩
set_option maxRecDepth 100000 in
theorem d_S_knownSet_16 : Dc m_S_knownSet 16 (.aload_n 1) 1 17 := ⟨by decide +kernel, rfl⟩
set_option maxRecDepth 100000 in
theorem d_S_knownSet_17 : Dc m_S_knownSet 17 (.iload 5) 2 19 := ⟨by decide +kernel, rfl⟩
set_option maxRecDepth 100000 in
theorem d_S_knownSet_19 : Dc m_S_knownSet 19 (.iload_n 2) 1 20 := ⟨by decide +kernel, rfl⟩
set_option maxRecDepth 100000 in
theorem d_S_knownSet_20 : Dc m_S_knownSet 20 (.aload_n 0) 1 21 := ⟨by decide +kernel, rfl⟩
set_option maxRecDepth 100000 in
theorem d_S_knownSet_21 : Dc m_S_knownSet 21 (.getfield 12) 3 24 := ⟨by decide +kernel, rfl⟩
set_option maxRecDepth 100000 in
theorem d_S_knownSet_24 : Dc m_S_knownSet 24 (.getfield 184) 3 27 := ⟨by decide +kernel, rfl⟩
set_option maxRecDepth 100000 in
theorem d_S_knownSet_27 : Dc m_S_knownSet 27 (.invokevirtual 196) 3 30 := ⟨by decide +kernel, rfl⟩
set_option maxRecDepth 100000 in
theorem d_S_knownSet_30 : Dc m_S_knownSet 30 (.aload_n 0) 1 31 := ⟨by decide +kernel, rfl⟩
set_option maxRecDepth 100000 in
theorem d_S_knownSet_31 : Dc m_S_knownSet 31 (.getfield 47) 3 34 := ⟨by decide +kernel, rfl⟩
set_option maxRecDepth 100000 in
theorem d_S_knownSet_34 : Dc m_S_knownSet 34 (.invokevirtual 286) 3 37 := ⟨by decide +kernel, rfl⟩
set_option maxRecDepth 100000 in
theorem d_S_knownSet_37 : Dj m_S_knownSet 37 (.ifCond .eq) 40 47 := ⟨10, by decide +kernel, rfl, by decide⟩
set_option maxRecDepth 100000 in
theorem d_S_knownSet_40 : Dc m_S_knownSet 40 (.lload_n 3) 1 41 := ⟨by decide +kernel, rfl⟩
set_option maxRecDepth 100000 in
theorem d_S_knownSet_41 : Dc m_S_knownSet 41 (.lconst 1) 1 42 := ⟨by decide +kernel, rfl⟩
set_option maxRecDepth 100000 in
theorem d_S_knownSet_42 : Dc m_S_knownSet 42 (.iload 5) 2 44 := ⟨by decide +kernel, rfl⟩
set_option maxRecDepth 100000 in
theorem d_S_knownSet_44 : Dc m_S_knownSet 44 .lshl 1 45 := ⟨by decide +kernel, rfl⟩
set_option maxRecDepth 100000 in
theorem d_S_knownSet_45 : Dc m_S_knownSet 45 .lor 1 46 := ⟨by decide +kernel, rfl⟩
set_option maxRecDepth 100000 in
theorem d_S_knownSet_46 : Dc m_S_knownSet 46 (.lstore_n 3) 1 47 := ⟨by decide +kernel, rfl⟩
set_option maxRecDepth 100000 in
theorem d_S_knownSet_47 : Dc m_S_knownSet 47 (.iinc 5 (1)) 3 50 := ⟨by decide +kernel, rfl⟩
set_option maxRecDepth 100000 in
theorem d_S_knownSet_50 : Dj m_S_knownSet 50 .goto 53 5 := ⟨-45, by decide +kernel, rfl, by decide⟩
set_option maxRecDepth 100000 in
theorem d_S_knownSet_53 : Dc m_S_knownSet 53 (.lload_n 3) 1 54 := ⟨by decide +kernel, rfl⟩
set_option maxRecDepth 100000 in
theorem d_S_knownSet_54 : Dc m_S_knownSet 54 .lreturn 1 55 := ⟨by decide +kernel, rfl⟩
set_option maxRecDepth 100000 in
theorem d_S_memberAt_0 : Dc m_S_memberAt 0 (.iload_n 2) 1 1 := ⟨by decide +kernel, rfl⟩
set_option maxRecDepth 100000 in
theorem d_S_memberAt_1 : Dc m_S_memberAt 1 (.istore_n 3) 1 2 := ⟨by decide +kernel, rfl⟩
set_option maxRecDepth 100000 in
theorem d_S_memberAt_2 : Dc m_S_memberAt 2 (.iconst 0) 1 3 := ⟨by decide +kernel, rfl⟩
set_option maxRecDepth 100000 in
theorem d_S_memberAt_3 : Dc m_S_memberAt 3 (.istore 4) 2 5 := ⟨by decide +kernel, rfl⟩
set_option maxRecDepth 100000 in
theorem d_S_memberAt_5 : Dc m_S_memberAt 5 (.iload 4) 2 7 := ⟨by decide +kernel, rfl⟩
set_option maxRecDepth 100000 in
theorem d_S_memberAt_7 : Dc m_S_memberAt 7 (.bipush (36)) 2 9 := ⟨by decide +kernel, rfl⟩
set_option maxRecDepth 100000 in
theorem d_S_memberAt_9 : Dj m_S_memberAt 9 (.if_icmp .ge) 12 39 := ⟨30, by decide +kernel, rfl, by decide⟩
set_option maxRecDepth 100000 in
theorem d_S_memberAt_12 : Dc m_S_memberAt 12 (.lload_n 0) 1 13 := ⟨by decide +kernel, rfl⟩
set_option maxRecDepth 100000 in
theorem d_S_memberAt_13 : Dc m_S_memberAt 13 (.iload 4) 2 15 := ⟨by decide +kernel, rfl⟩
set_option maxRecDepth 100000 in
theorem d_S_memberAt_15 : Dc m_S_memberAt 15 .lushr 1 16 := ⟨by decide +kernel, rfl⟩
set_option maxRecDepth 100000 in
theorem d_S_memberAt_16 : Dc m_S_memberAt 16 (.lconst 1) 1 17 := ⟨by decide +kernel, rfl⟩
set_option maxRecDepth 100000 in
theorem d_S_memberAt_17 : Dc m_S_memberAt 17 .land 1 18 := ⟨by decide +kernel, rfl⟩
set_option maxRecDepth 100000 in
theorem d_S_memberAt_18 : Dc m_S_memberAt 18 (.lconst 1) 1 19 := ⟨by decide +kernel, rfl⟩
set_option maxRecDepth 100000 in
theorem d_S_memberAt_19 : Dc m_S_memberAt 19 .lcmp 1 20 := ⟨by decide +kernel, rfl⟩
set_option maxRecDepth 100000 in
theorem d_S_memberAt_20 : Dj m_S_memberAt 20 (.ifCond .ne) 23 33 := ⟨13, by decide +kernel, rfl, by decide⟩
set_option maxRecDepth 100000 in
theorem d_S_memberAt_23 : Dc m_S_memberAt 23 (.iload_n 3) 1 24 := ⟨by decide +kernel, rfl⟩
set_option maxRecDepth 100000 in
theorem d_S_memberAt_24 : Dj m_S_memberAt 24 (.ifCond .ne) 27 30 := ⟨6, by decide +kernel, rfl, by decide⟩
set_option maxRecDepth 100000 in
theorem d_S_memberAt_27 : Dc m_S_memberAt 27 (.iload 4) 2 29 := ⟨by decide +kernel, rfl⟩
set_option maxRecDepth 100000 in
theorem d_S_memberAt_29 : Dc m_S_memberAt 29 .ireturn 1 30 := ⟨by decide +kernel, rfl⟩
set_option maxRecDepth 100000 in
theorem d_S_memberAt_30 : Dc m_S_memberAt 30 (.iinc 3 (-1)) 3 33 := ⟨by decide +kernel, rfl⟩
set_option maxRecDepth 100000 in
theorem d_S_memberAt_33 : Dc m_S_memberAt 33 (.iinc 4 (1)) 3 36 := ⟨by decide +kernel, rfl⟩
set_option maxRecDepth 100000 in
theorem d_S_memberAt_36 : Dj m_S_memberAt 36 .goto 39 5 := ⟨-31, by decide +kernel, rfl, by decide⟩
set_option maxRecDepth 100000 in
theorem d_S_memberAt_39 : Dc m_S_memberAt 39 (.bipush (-3)) 2 41 := ⟨by decide +kernel, rfl⟩
set_option maxRecDepth 100000 in
theorem d_S_memberAt_41 : Dc m_S_memberAt 41 .ireturn 1 42 := ⟨by decide +kernel, rfl⟩
set_option maxRecDepth 100000 in
theorem d_S_howManyKnow_0 : Dc m_S_howManyKnow 0 (.iconst 0) 1 1 := ⟨by decide +kernel, rfl⟩
set_option maxRecDepth 100000 in
theorem d_S_howManyKnow_1 : Dc m_S_howManyKnow 1 (.istore_n 3) 1 2 := ⟨by decide +kernel, rfl⟩
set_option maxRecDepth 100000 in
theorem d_S_howManyKnow_2 : Dc m_S_howManyKnow 2 (.iconst 0) 1 3 := ⟨by decide +kernel, rfl⟩
set_option maxRecDepth 100000 in
theorem d_S_howManyKnow_3 : Dc m_S_howManyKnow 3 (.istore 4) 2 5 := ⟨by decide +kernel, rfl⟩
set_option maxRecDepth 100000 in
theorem d_S_howManyKnow_5 : Dc m_S_howManyKnow 5 (.iload 4) 2 7 := ⟨by decide +kernel, rfl⟩
set_option maxRecDepth 100000 in
theorem d_S_howManyKnow_7 : Dc m_S_howManyKnow 7 (.aload_n 0) 1 8 := ⟨by decide +kernel, rfl⟩
set_option maxRecDepth 100000 in
theorem d_S_howManyKnow_8 : Dc m_S_howManyKnow 8 (.getfield 12) 3 11 := ⟨by decide +kernel, rfl⟩
set_option maxRecDepth 100000 in
theorem d_S_howManyKnow_11 : Dc m_S_howManyKnow 11 (.getfield 122) 3 14 := ⟨by decide +kernel, rfl⟩
set_option maxRecDepth 100000 in
theorem d_S_howManyKnow_14 : Dj m_S_howManyKnow 14 (.if_icmp .ge) 17 62 := ⟨48, by decide +kernel, rfl, by decide⟩
set_option maxRecDepth 100000 in
theorem d_S_howManyKnow_17 : Dc m_S_howManyKnow 17 (.aload_n 0) 1 18 := ⟨by decide +kernel, rfl⟩
set_option maxRecDepth 100000 in
theorem d_S_howManyKnow_18 : Dc m_S_howManyKnow 18 (.getfield 47) 3 21 := ⟨by decide +kernel, rfl⟩
set_option maxRecDepth 100000 in
theorem d_S_howManyKnow_21 : Dc m_S_howManyKnow 21 (.aload_n 0) 1 22 := ⟨by decide +kernel, rfl⟩
set_option maxRecDepth 100000 in
theorem d_S_howManyKnow_22 : Dc m_S_howManyKnow 22 (.getfield 12) 3 25 := ⟨by decide +kernel, rfl⟩
set_option maxRecDepth 100000 in
theorem d_S_howManyKnow_25 : Dc m_S_howManyKnow 25 (.getfield 236) 3 28 := ⟨by decide +kernel, rfl⟩
set_option maxRecDepth 100000 in
theorem d_S_howManyKnow_28 : Dc m_S_howManyKnow 28 (.iload 4) 2 30 := ⟨by decide +kernel, rfl⟩
set_option maxRecDepth 100000 in
theorem d_S_howManyKnow_30 : Dc m_S_howManyKnow 30 .aaload 1 31 := ⟨by decide +kernel, rfl⟩
set_option maxRecDepth 100000 in
theorem d_S_howManyKnow_31 : Dc m_S_howManyKnow 31 (.iload_n 1) 1 32 := ⟨by decide +kernel, rfl⟩
set_option maxRecDepth 100000 in
theorem d_S_howManyKnow_32 : Dc m_S_howManyKnow 32 (.iload_n 2) 1 33 := ⟨by decide +kernel, rfl⟩
set_option maxRecDepth 100000 in
theorem d_S_howManyKnow_33 : Dc m_S_howManyKnow 33 (.aload_n 0) 1 34 := ⟨by decide +kernel, rfl⟩
set_option maxRecDepth 100000 in
theorem d_S_howManyKnow_34 : Dc m_S_howManyKnow 34 (.getfield 12) 3 37 := ⟨by decide +kernel, rfl⟩
set_option maxRecDepth 100000 in
theorem d_S_howManyKnow_37 : Dc m_S_howManyKnow 37 (.getfield 184) 3 40 := ⟨by decide +kernel, rfl⟩
set_option maxRecDepth 100000 in
theorem d_S_howManyKnow_40 : Dc m_S_howManyKnow 40 (.invokevirtual 196) 3 43 := ⟨by decide +kernel, rfl⟩
set_option maxRecDepth 100000 in
theorem d_S_howManyKnow_43 : Dc m_S_howManyKnow 43 (.aload_n 0) 1 44 := ⟨by decide +kernel, rfl⟩
set_option maxRecDepth 100000 in
theorem d_S_howManyKnow_44 : Dc m_S_howManyKnow 44 (.getfield 47) 3 47 := ⟨by decide +kernel, rfl⟩
set_option maxRecDepth 100000 in
theorem d_S_howManyKnow_47 : Dc m_S_howManyKnow 47 (.invokevirtual 286) 3 50 := ⟨by decide +kernel, rfl⟩
set_option maxRecDepth 100000 in
theorem d_S_howManyKnow_50 : Dj m_S_howManyKnow 50 (.ifCond .eq) 53 56 := ⟨6, by decide +kernel, rfl, by decide⟩
set_option maxRecDepth 100000 in
theorem d_S_howManyKnow_53 : Dc m_S_howManyKnow 53 (.iinc 3 (1)) 3 56 := ⟨by decide +kernel, rfl⟩
set_option maxRecDepth 100000 in
theorem d_S_howManyKnow_56 : Dc m_S_howManyKnow 56 (.iinc 4 (1)) 3 59 := ⟨by decide +kernel, rfl⟩
set_option maxRecDepth 100000 in
theorem d_S_howManyKnow_59 : Dj m_S_howManyKnow 59 .goto 62 5 := ⟨-54, by decide +kernel, rfl, by decide⟩
set_option maxRecDepth 100000 in
theorem d_S_howManyKnow_62 : Dc m_S_howManyKnow 62 (.iload_n 3) 1 63 := ⟨by decide +kernel, rfl⟩
set_option maxRecDepth 100000 in
theorem d_S_howManyKnow_63 : Dc m_S_howManyKnow 63 .ireturn 1 64 := ⟨by decide +kernel, rfl⟩
set_option maxRecDepth 100000 in
theorem d_S_countSlips_0 : Dc m_S_countSlips 0 (.iconst 0) 1 1 := ⟨by decide +kernel, rfl⟩
set_option maxRecDepth 100000 in
theorem d_S_countSlips_1 : Dc m_S_countSlips 1 (.istore_n 3) 1 2 := ⟨by decide +kernel, rfl⟩
set_option maxRecDepth 100000 in
theorem d_S_countSlips_2 : Dc m_S_countSlips 2 (.iload_n 3) 1 3 := ⟨by decide +kernel, rfl⟩
set_option maxRecDepth 100000 in
theorem d_S_countSlips_3 : Dc m_S_countSlips 3 (.bipush (36)) 2 5 := ⟨by decide +kernel, rfl⟩
set_option maxRecDepth 100000 in
theorem d_S_countSlips_5 : Dj m_S_countSlips 5 (.if_icmp .ge) 8 21 := ⟨16, by decide +kernel, rfl, by decide⟩
set_option maxRecDepth 100000 in
theorem d_S_countSlips_8 : Dc m_S_countSlips 8 (.aload_n 0) 1 9 := ⟨by decide +kernel, rfl⟩
set_option maxRecDepth 100000 in
theorem d_S_countSlips_9 : Dc m_S_countSlips 9 (.getfield 58) 3 12 := ⟨by decide +kernel, rfl⟩
set_option maxRecDepth 100000 in
theorem d_S_countSlips_12 : Dc m_S_countSlips 12 (.iload_n 3) 1 13 := ⟨by decide +kernel, rfl⟩
set_option maxRecDepth 100000 in
theorem d_S_countSlips_13 : Dc m_S_countSlips 13 (.iconst 0) 1 14 := ⟨by decide +kernel, rfl⟩
set_option maxRecDepth 100000 in
theorem d_S_countSlips_14 : Dc m_S_countSlips 14 .iastore 1 15 := ⟨by decide +kernel, rfl⟩
set_option maxRecDepth 100000 in
theorem d_S_countSlips_15 : Dc m_S_countSlips 15 (.iinc 3 (1)) 3 18 := ⟨by decide +kernel, rfl⟩
set_option maxRecDepth 100000 in
theorem d_S_countSlips_18 : Dj m_S_countSlips 18 .goto 21 2 := ⟨-16, by decide +kernel, rfl, by decide⟩
set_option maxRecDepth 100000 in
theorem d_S_countSlips_21 : Dc m_S_countSlips 21 (.iconst 0) 1 22 := ⟨by decide +kernel, rfl⟩
set_option maxRecDepth 100000 in
theorem d_S_countSlips_22 : Dc m_S_countSlips 22 (.istore_n 3) 1 23 := ⟨by decide +kernel, rfl⟩
set_option maxRecDepth 100000 in
theorem d_S_countSlips_23 : Dc m_S_countSlips 23 (.iload_n 3) 1 24 := ⟨by decide +kernel, rfl⟩
set_option maxRecDepth 100000 in
theorem d_S_countSlips_24 : Dc m_S_countSlips 24 (.bipush (36)) 2 26 := ⟨by decide +kernel, rfl⟩
set_option maxRecDepth 100000 in
theorem d_S_countSlips_26 : Dj m_S_countSlips 26 (.if_icmp .ge) 29 79 := ⟨53, by decide +kernel, rfl, by decide⟩
set_option maxRecDepth 100000 in
theorem d_S_countSlips_29 : Dc m_S_countSlips 29 (.aload_n 0) 1 30 := ⟨by decide +kernel, rfl⟩
set_option maxRecDepth 100000 in
theorem d_S_countSlips_30 : Dc m_S_countSlips 30 (.getfield 47) 3 33 := ⟨by decide +kernel, rfl⟩
set_option maxRecDepth 100000 in
theorem d_S_countSlips_33 : Dc m_S_countSlips 33 (.aload_n 1) 1 34 := ⟨by decide +kernel, rfl⟩
set_option maxRecDepth 100000 in
theorem d_S_countSlips_34 : Dc m_S_countSlips 34 (.iload_n 3) 1 35 := ⟨by decide +kernel, rfl⟩
set_option maxRecDepth 100000 in
theorem d_S_countSlips_35 : Dc m_S_countSlips 35 (.iload_n 2) 1 36 := ⟨by decide +kernel, rfl⟩
set_option maxRecDepth 100000 in
theorem d_S_countSlips_36 : Dc m_S_countSlips 36 (.aload_n 0) 1 37 := ⟨by decide +kernel, rfl⟩
set_option maxRecDepth 100000 in
theorem d_S_countSlips_37 : Dc m_S_countSlips 37 (.getfield 12) 3 40 := ⟨by decide +kernel, rfl⟩
set_option maxRecDepth 100000 in
theorem d_S_countSlips_40 : Dc m_S_countSlips 40 (.getfield 184) 3 43 := ⟨by decide +kernel, rfl⟩
set_option maxRecDepth 100000 in
theorem d_S_countSlips_43 : Dc m_S_countSlips 43 (.invokevirtual 196) 3 46 := ⟨by decide +kernel, rfl⟩
set_option maxRecDepth 100000 in
theorem d_S_countSlips_46 : Dc m_S_countSlips 46 (.aload_n 0) 1 47 := ⟨by decide +kernel, rfl⟩
set_option maxRecDepth 100000 in
theorem d_S_countSlips_47 : Dc m_S_countSlips 47 (.getfield 47) 3 50 := ⟨by decide +kernel, rfl⟩
set_option maxRecDepth 100000 in
theorem d_S_countSlips_50 : Dc m_S_countSlips 50 (.getfield 203) 3 53 := ⟨by decide +kernel, rfl⟩
set_option maxRecDepth 100000 in
theorem d_S_countSlips_53 : Dc m_S_countSlips 53 (.iconst 2) 1 54 := ⟨by decide +kernel, rfl⟩
set_option maxRecDepth 100000 in
theorem d_S_countSlips_54 : Dj m_S_countSlips 54 (.if_icmp .ne) 57 73 := ⟨19, by decide +kernel, rfl, by decide⟩
set_option maxRecDepth 100000 in
theorem d_S_countSlips_57 : Dc m_S_countSlips 57 (.aload_n 0) 1 58 := ⟨by decide +kernel, rfl⟩
set_option maxRecDepth 100000 in
theorem d_S_countSlips_58 : Dc m_S_countSlips 58 (.getfield 58) 3 61 := ⟨by decide +kernel, rfl⟩
set_option maxRecDepth 100000 in
theorem d_S_countSlips_61 : Dc m_S_countSlips 61 (.aload_n 0) 1 62 := ⟨by decide +kernel, rfl⟩
set_option maxRecDepth 100000 in
theorem d_S_countSlips_62 : Dc m_S_countSlips 62 (.getfield 47) 3 65 := ⟨by decide +kernel, rfl⟩
set_option maxRecDepth 100000 in
theorem d_S_countSlips_65 : Dc m_S_countSlips 65 (.getfield 209) 3 68 := ⟨by decide +kernel, rfl⟩
set_option maxRecDepth 100000 in
theorem d_S_countSlips_68 : Dc m_S_countSlips 68 .dup2 1 69 := ⟨by decide +kernel, rfl⟩
set_option maxRecDepth 100000 in
theorem d_S_countSlips_69 : Dc m_S_countSlips 69 .iaload 1 70 := ⟨by decide +kernel, rfl⟩
set_option maxRecDepth 100000 in
theorem d_S_countSlips_70 : Dc m_S_countSlips 70 (.iconst 1) 1 71 := ⟨by decide +kernel, rfl⟩
set_option maxRecDepth 100000 in
theorem d_S_countSlips_71 : Dc m_S_countSlips 71 .iadd 1 72 := ⟨by decide +kernel, rfl⟩
set_option maxRecDepth 100000 in
theorem d_S_countSlips_72 : Dc m_S_countSlips 72 .iastore 1 73 := ⟨by decide +kernel, rfl⟩
set_option maxRecDepth 100000 in
theorem d_S_countSlips_73 : Dc m_S_countSlips 73 (.iinc 3 (1)) 3 76 := ⟨by decide +kernel, rfl⟩
set_option maxRecDepth 100000 in
theorem d_S_countSlips_76 : Dj m_S_countSlips 76 .goto 79 23 := ⟨-53, by decide +kernel, rfl, by decide⟩
set_option maxRecDepth 100000 in
theorem d_S_countSlips_79 : Dc m_S_countSlips 79 .return_ 1 80 := ⟨by decide +kernel, rfl⟩
set_option maxRecDepth 100000 in
theorem d_S_fillRows_0 : Dc m_S_fillRows 0 (.aload_n 0) 1 1 := ⟨by decide +kernel, rfl⟩
set_option maxRecDepth 100000 in
theorem d_S_fillRows_1 : Dc m_S_fillRows 1 (.getfield 40) 3 4 := ⟨by decide +kernel, rfl⟩
set_option maxRecDepth 100000 in
theorem d_S_fillRows_4 : Dc m_S_fillRows 4 (.astore_n 3) 1 5 := ⟨by decide +kernel, rfl⟩
set_option maxRecDepth 100000 in
theorem d_S_fillRows_5 : Dc m_S_fillRows 5 (.aload_n 3) 1 6 := ⟨by decide +kernel, rfl⟩
set_option maxRecDepth 100000 in
theorem d_S_fillRows_6 : Dc m_S_fillRows 6 (.aload_n 2) 1 7 := ⟨by decide +kernel, rfl⟩
set_option maxRecDepth 100000 in
theorem d_S_fillRows_7 : Dc m_S_fillRows 7 (.invokevirtual 227) 3 10 := ⟨by decide +kernel, rfl⟩
set_option maxRecDepth 100000 in
theorem d_S_fillRows_10 : Dc m_S_fillRows 10 (.aload_n 0) 1 11 := ⟨by decide +kernel, rfl⟩
set_option maxRecDepth 100000 in
theorem d_S_fillRows_11 : Dc m_S_fillRows 11 (.getfield 12) 3 14 := ⟨by decide +kernel, rfl⟩
set_option maxRecDepth 100000 in
theorem d_S_fillRows_14 : Dc m_S_fillRows 14 (.getfield 187) 3 17 := ⟨by decide +kernel, rfl⟩
set_option maxRecDepth 100000 in
theorem d_S_fillRows_17 : Dc m_S_fillRows 17 (.istore 4) 2 19 := ⟨by decide +kernel, rfl⟩
set_option maxRecDepth 100000 in
theorem d_S_fillRows_19 : Dc m_S_fillRows 19 (.aload_n 1) 1 20 := ⟨by decide +kernel, rfl⟩
set_option maxRecDepth 100000 in
theorem d_S_fillRows_20 : Dc m_S_fillRows 20 (.iconst 0) 1 21 := ⟨by decide +kernel, rfl⟩
set_option maxRecDepth 100000 in
theorem d_S_fillRows_21 : Dc m_S_fillRows 21 (.putfield 302) 3 24 := ⟨by decide +kernel, rfl⟩
set_option maxRecDepth 100000 in
theorem d_S_fillRows_24 : Dc m_S_fillRows 24 (.iconst 0) 1 25 := ⟨by decide +kernel, rfl⟩
set_option maxRecDepth 100000 in
theorem d_S_fillRows_25 : Dc m_S_fillRows 25 (.istore 5) 2 27 := ⟨by decide +kernel, rfl⟩
set_option maxRecDepth 100000 in
theorem d_S_fillRows_27 : Dc m_S_fillRows 27 (.iload 5) 2 29 := ⟨by decide +kernel, rfl⟩
set_option maxRecDepth 100000 in
theorem d_S_fillRows_29 : Dc m_S_fillRows 29 (.aload_n 0) 1 30 := ⟨by decide +kernel, rfl⟩
set_option maxRecDepth 100000 in
theorem d_S_fillRows_30 : Dc m_S_fillRows 30 (.getfield 12) 3 33 := ⟨by decide +kernel, rfl⟩
set_option maxRecDepth 100000 in
theorem d_S_fillRows_33 : Dc m_S_fillRows 33 (.getfield 108) 3 36 := ⟨by decide +kernel, rfl⟩
set_option maxRecDepth 100000 in
theorem d_S_fillRows_36 : Dc m_S_fillRows 36 (.getfield 115) 3 39 := ⟨by decide +kernel, rfl⟩
set_option maxRecDepth 100000 in
theorem d_S_fillRows_39 : Dj m_S_fillRows 39 (.if_icmp .ge) 42 198 := ⟨159, by decide +kernel, rfl, by decide⟩
set_option maxRecDepth 100000 in
theorem d_S_fillRows_42 : Dc m_S_fillRows 42 (.aload_n 0) 1 43 := ⟨by decide +kernel, rfl⟩
set_option maxRecDepth 100000 in
theorem d_S_fillRows_43 : Dc m_S_fillRows 43 (.getfield 12) 3 46 := ⟨by decide +kernel, rfl⟩
set_option maxRecDepth 100000 in
theorem d_S_fillRows_46 : Dc m_S_fillRows 46 (.getfield 108) 3 49 := ⟨by decide +kernel, rfl⟩
set_option maxRecDepth 100000 in
theorem d_S_fillRows_49 : Dc m_S_fillRows 49 (.getfield 278) 3 52 := ⟨by decide +kernel, rfl⟩
set_option maxRecDepth 100000 in
theorem d_S_fillRows_52 : Dc m_S_fillRows 52 (.iload 5) 2 54 := ⟨by decide +kernel, rfl⟩
set_option maxRecDepth 100000 in
theorem d_S_fillRows_54 : Dc m_S_fillRows 54 .iaload 1 55 := ⟨by decide +kernel, rfl⟩
set_option maxRecDepth 100000 in
theorem d_S_fillRows_55 : Dc m_S_fillRows 55 (.istore 6) 2 57 := ⟨by decide +kernel, rfl⟩
set_option maxRecDepth 100000 in
theorem d_S_fillRows_57 : Dc m_S_fillRows 57 (.aload_n 0) 1 58 := ⟨by decide +kernel, rfl⟩
set_option maxRecDepth 100000 in
theorem d_S_fillRows_58 : Dc m_S_fillRows 58 (.getfield 12) 3 61 := ⟨by decide +kernel, rfl⟩
set_option maxRecDepth 100000 in
theorem d_S_fillRows_61 : Dc m_S_fillRows 61 (.getfield 108) 3 64 := ⟨by decide +kernel, rfl⟩
set_option maxRecDepth 100000 in
theorem d_S_fillRows_64 : Dc m_S_fillRows 64 (.getfield 281) 3 67 := ⟨by decide +kernel, rfl⟩
set_option maxRecDepth 100000 in
theorem d_S_fillRows_67 : Dc m_S_fillRows 67 (.iload 5) 2 69 := ⟨by decide +kernel, rfl⟩
set_option maxRecDepth 100000 in
theorem d_S_fillRows_69 : Dc m_S_fillRows 69 .iaload 1 70 := ⟨by decide +kernel, rfl⟩
set_option maxRecDepth 100000 in
theorem d_S_fillRows_70 : Lsw m_S_fillRows 70 [(0, 96), (1, 161)] 170 := ⟨100, [(0, 26), (1, 91)], 26, by decide +kernel, by decide, by decide +kernel, by decide +kernel⟩
set_option maxRecDepth 100000 in
theorem d_S_fillRows_96 : Dc m_S_fillRows 96 (.aload_n 0) 1 97 := ⟨by decide +kernel, rfl⟩
set_option maxRecDepth 100000 in
theorem d_S_fillRows_97 : Dc m_S_fillRows 97 (.getfield 47) 3 100 := ⟨by decide +kernel, rfl⟩
set_option maxRecDepth 100000 in
theorem d_S_fillRows_100 : Dc m_S_fillRows 100 (.aload_n 3) 1 101 := ⟨by decide +kernel, rfl⟩
set_option maxRecDepth 100000 in
theorem d_S_fillRows_101 : Dc m_S_fillRows 101 (.iload 6) 2 103 := ⟨by decide +kernel, rfl⟩
set_option maxRecDepth 100000 in
theorem d_S_fillRows_103 : Dc m_S_fillRows 103 (.aload_n 0) 1 104 := ⟨by decide +kernel, rfl⟩
set_option maxRecDepth 100000 in
theorem d_S_fillRows_104 : Dc m_S_fillRows 104 (.getfield 12) 3 107 := ⟨by decide +kernel, rfl⟩
set_option maxRecDepth 100000 in
theorem d_S_fillRows_107 : Dc m_S_fillRows 107 (.getfield 108) 3 110 := ⟨by decide +kernel, rfl⟩
set_option maxRecDepth 100000 in
theorem d_S_fillRows_110 : Dc m_S_fillRows 110 (.getfield 284) 3 113 := ⟨by decide +kernel, rfl⟩
set_option maxRecDepth 100000 in
theorem d_S_fillRows_113 : Dc m_S_fillRows 113 (.iload 5) 2 115 := ⟨by decide +kernel, rfl⟩
set_option maxRecDepth 100000 in
theorem d_S_fillRows_115 : Dc m_S_fillRows 115 .iaload 1 116 := ⟨by decide +kernel, rfl⟩
set_option maxRecDepth 100000 in
theorem d_S_fillRows_116 : Dc m_S_fillRows 116 (.aload_n 0) 1 117 := ⟨by decide +kernel, rfl⟩
set_option maxRecDepth 100000 in
theorem d_S_fillRows_117 : Dc m_S_fillRows 117 (.getfield 12) 3 120 := ⟨by decide +kernel, rfl⟩
set_option maxRecDepth 100000 in
theorem d_S_fillRows_120 : Dc m_S_fillRows 120 (.getfield 184) 3 123 := ⟨by decide +kernel, rfl⟩
set_option maxRecDepth 100000 in
theorem d_S_fillRows_123 : Dc m_S_fillRows 123 (.invokevirtual 196) 3 126 := ⟨by decide +kernel, rfl⟩
set_option maxRecDepth 100000 in
theorem d_S_fillRows_126 : Dc m_S_fillRows 126 (.aload_n 3) 1 127 := ⟨by decide +kernel, rfl⟩
set_option maxRecDepth 100000 in
theorem d_S_fillRows_127 : Dc m_S_fillRows 127 (.aload_n 0) 1 128 := ⟨by decide +kernel, rfl⟩
set_option maxRecDepth 100000 in
theorem d_S_fillRows_128 : Dc m_S_fillRows 128 (.getfield 47) 3 131 := ⟨by decide +kernel, rfl⟩
set_option maxRecDepth 100000 in
theorem d_S_fillRows_131 : Dc m_S_fillRows 131 (.iload 6) 2 133 := ⟨by decide +kernel, rfl⟩
set_option maxRecDepth 100000 in
theorem d_S_fillRows_133 : Dc m_S_fillRows 133 (.iload 4) 2 135 := ⟨by decide +kernel, rfl⟩
set_option maxRecDepth 100000 in
theorem d_S_fillRows_135 : Dc m_S_fillRows 135 (.invokevirtual 212) 3 138 := ⟨by decide +kernel, rfl⟩
set_option maxRecDepth 100000 in
theorem d_S_fillRows_138 : Dc m_S_fillRows 138 (.aload_n 1) 1 139 := ⟨by decide +kernel, rfl⟩
set_option maxRecDepth 100000 in
theorem d_S_fillRows_139 : Dc m_S_fillRows 139 (.iload 6) 2 141 := ⟨by decide +kernel, rfl⟩
set_option maxRecDepth 100000 in
theorem d_S_fillRows_141 : Dc m_S_fillRows 141 (.aload_n 0) 1 142 := ⟨by decide +kernel, rfl⟩
set_option maxRecDepth 100000 in
theorem d_S_fillRows_142 : Dc m_S_fillRows 142 (.getfield 47) 3 145 := ⟨by decide +kernel, rfl⟩
set_option maxRecDepth 100000 in
theorem d_S_fillRows_145 : Dc m_S_fillRows 145 (.getfield 200) 3 148 := ⟨by decide +kernel, rfl⟩
set_option maxRecDepth 100000 in
theorem d_S_fillRows_148 : Dc m_S_fillRows 148 (.aload_n 0) 1 149 := ⟨by decide +kernel, rfl⟩
set_option maxRecDepth 100000 in
theorem d_S_fillRows_149 : Dc m_S_fillRows 149 (.getfield 47) 3 152 := ⟨by decide +kernel, rfl⟩
set_option maxRecDepth 100000 in
theorem d_S_fillRows_152 : Dc m_S_fillRows 152 (.getfield 206) 3 155 := ⟨by decide +kernel, rfl⟩
set_option maxRecDepth 100000 in
theorem d_S_fillRows_155 : Dc m_S_fillRows 155 (.invokevirtual 395) 3 158 := ⟨by decide +kernel, rfl⟩
set_option maxRecDepth 100000 in
theorem d_S_fillRows_158 : Dj m_S_fillRows 158 .goto 161 192 := ⟨34, by decide +kernel, rfl, by decide⟩
set_option maxRecDepth 100000 in
theorem d_S_fillRows_161 : Dc m_S_fillRows 161 (.aload_n 3) 1 162 := ⟨by decide +kernel, rfl⟩
set_option maxRecDepth 100000 in
theorem d_S_fillRows_162 : Dc m_S_fillRows 162 (.iload 6) 2 164 := ⟨by decide +kernel, rfl⟩
set_option maxRecDepth 100000 in
theorem d_S_fillRows_164 : Dc m_S_fillRows 164 (.invokevirtual 216) 3 167 := ⟨by decide +kernel, rfl⟩
set_option maxRecDepth 100000 in
theorem d_S_fillRows_167 : Dj m_S_fillRows 167 .goto 170 192 := ⟨25, by decide +kernel, rfl, by decide⟩
set_option maxRecDepth 100000 in
theorem d_S_fillRows_170 : Dc m_S_fillRows 170 (.aload_n 3) 1 171 := ⟨by decide +kernel, rfl⟩
set_option maxRecDepth 100000 in
theorem d_S_fillRows_171 : Dc m_S_fillRows 171 (.iload 6) 2 173 := ⟨by decide +kernel, rfl⟩
set_option maxRecDepth 100000 in
theorem d_S_fillRows_173 : Dc m_S_fillRows 173 (.aload_n 0) 1 174 := ⟨by decide +kernel, rfl⟩
set_option maxRecDepth 100000 in
theorem d_S_fillRows_174 : Dc m_S_fillRows 174 (.getfield 12) 3 177 := ⟨by decide +kernel, rfl⟩
set_option maxRecDepth 100000 in
theorem d_S_fillRows_177 : Dc m_S_fillRows 177 (.getfield 184) 3 180 := ⟨by decide +kernel, rfl⟩
set_option maxRecDepth 100000 in
theorem d_S_fillRows_180 : Dc m_S_fillRows 180 (.iconst 0) 1 181 := ⟨by decide +kernel, rfl⟩
set_option maxRecDepth 100000 in
theorem d_S_fillRows_181 : Dc m_S_fillRows 181 .iaload 1 182 := ⟨by decide +kernel, rfl⟩
set_option maxRecDepth 100000 in
theorem d_S_fillRows_182 : Dc m_S_fillRows 182 (.invokevirtual 230) 3 185 := ⟨by decide +kernel, rfl⟩
set_option maxRecDepth 100000 in
theorem d_S_fillRows_185 : Dc m_S_fillRows 185 (.iload 4) 2 187 := ⟨by decide +kernel, rfl⟩
set_option maxRecDepth 100000 in
theorem d_S_fillRows_187 : Dc m_S_fillRows 187 (.iload 6) 2 189 := ⟨by decide +kernel, rfl⟩
set_option maxRecDepth 100000 in
theorem d_S_fillRows_189 : Dc m_S_fillRows 189 .iadd 1 190 := ⟨by decide +kernel, rfl⟩
set_option maxRecDepth 100000 in
theorem d_S_fillRows_190 : Dc m_S_fillRows 190 (.istore 4) 2 192 := ⟨by decide +kernel, rfl⟩
set_option maxRecDepth 100000 in
theorem d_S_fillRows_192 : Dc m_S_fillRows 192 (.iinc 5 (1)) 3 195 := ⟨by decide +kernel, rfl⟩
set_option maxRecDepth 100000 in
theorem d_S_fillRows_195 : Dj m_S_fillRows 195 .goto 198 27 := ⟨-168, by decide +kernel, rfl, by decide⟩
set_option maxRecDepth 100000 in
theorem d_S_fillRows_198 : Dc m_S_fillRows 198 .return_ 1 199 := ⟨by decide +kernel, rfl⟩
set_option maxRecDepth 100000 in
theorem d_S_run_0 : Dc m_S_run 0 (.iload_n 3) 1 1 := ⟨by decide +kernel, rfl⟩
set_option maxRecDepth 100000 in
theorem d_S_run_1 : Dc m_S_run 1 (.bipush (20)) 2 3 := ⟨by decide +kernel, rfl⟩
set_option maxRecDepth 100000 in
theorem d_S_run_3 : Dj m_S_run 3 (.if_icmp .gt) 6 14 := ⟨11, by decide +kernel, rfl, by decide⟩
set_option maxRecDepth 100000 in
theorem d_S_run_6 : Dc m_S_run 6 (.aload_n 0) 1 7 := ⟨by decide +kernel, rfl⟩
set_option maxRecDepth 100000 in
theorem d_S_run_7 : Dc m_S_run 7 (.iload_n 1) 1 8 := ⟨by decide +kernel, rfl⟩
set_option maxRecDepth 100000 in
theorem d_S_run_8 : Dc m_S_run 8 (.invokevirtual 397) 3 11 := ⟨by decide +kernel, rfl⟩
set_option maxRecDepth 100000 in
theorem d_S_run_11 : Dj m_S_run 11 (.ifCond .ne) 14 16 := ⟨5, by decide +kernel, rfl, by decide⟩
set_option maxRecDepth 100000 in
theorem d_S_run_14 : Dc m_S_run 14 (.iconst 0) 1 15 := ⟨by decide +kernel, rfl⟩
set_option maxRecDepth 100000 in
theorem d_S_run_15 : Dc m_S_run 15 .ireturn 1 16 := ⟨by decide +kernel, rfl⟩
set_option maxRecDepth 100000 in
theorem d_S_run_16 : Dc m_S_run 16 (.aload_n 0) 1 17 := ⟨by decide +kernel, rfl⟩
set_option maxRecDepth 100000 in
theorem d_S_run_17 : Dc m_S_run 17 (.getfield 400) 3 20 := ⟨by decide +kernel, rfl⟩
set_option maxRecDepth 100000 in
theorem d_S_run_20 : Dc m_S_run 20 (.istore 4) 2 22 := ⟨by decide +kernel, rfl⟩
set_option maxRecDepth 100000 in
theorem d_S_run_22 : Dc m_S_run 22 (.aload_n 0) 1 23 := ⟨by decide +kernel, rfl⟩
set_option maxRecDepth 100000 in
theorem d_S_run_23 : Dc m_S_run 23 (.getfield 403) 3 26 := ⟨by decide +kernel, rfl⟩
set_option maxRecDepth 100000 in
theorem d_S_run_26 : Dc m_S_run 26 (.istore 5) 2 28 := ⟨by decide +kernel, rfl⟩
set_option maxRecDepth 100000 in
theorem d_S_run_28 : Dc m_S_run 28 (.iload_n 3) 1 29 := ⟨by decide +kernel, rfl⟩
set_option maxRecDepth 100000 in
theorem d_S_run_29 : Dc m_S_run 29 (.iconst 1) 1 30 := ⟨by decide +kernel, rfl⟩
set_option maxRecDepth 100000 in
theorem d_S_run_30 : Dc m_S_run 30 .iadd 1 31 := ⟨by decide +kernel, rfl⟩
set_option maxRecDepth 100000 in
theorem d_S_run_31 : Dc m_S_run 31 (.istore 6) 2 33 := ⟨by decide +kernel, rfl⟩
set_option maxRecDepth 100000 in
theorem d_S_run_33 : Dc m_S_run 33 (.iload_n 1) 1 34 := ⟨by decide +kernel, rfl⟩
set_option maxRecDepth 100000 in
theorem d_S_run_34 : Ts m_S_run 34 [(10, 256), (11, 261), (12, 276), (13, 282), (14, 446), (15, 446), (16, 446), (17, 446), (18, 446), (19, 446), (20, 298), (21, 446), (22, 446), (23, 446), (24, 446), (25, 446), (26, 446), (27, 446), (28, 446), (29, 446), (30, 311), (31, 323), (32, 446), (33, 446), (34, 446), (35, 446), (36, 446), (37, 446), (38, 446), (39, 446), (40, 347), (41, 359), (42, 446), (43, 446), (44, 446), (45, 446), (46, 446), (47, 446), (48, 446), (49, 446), (50, 383), (51, 397), (52, 446), (53, 446), (54, 446), (55, 446), (56, 446), (57, 446), (58, 446), (59, 446), (60, 410), (61, 422)] 446 := ⟨412, 10, 61, [222, 227, 242, 248, 412, 412, 412, 412, 412, 412, 264, 412, 412, 412, 412, 412, 412, 412, 412, 412, 277, 289, 412, 412, 412, 412, 412, 412, 412, 412, 313, 325, 412, 412, 412, 412, 412, 412, 412, 412, 349, 363, 412, 412, 412, 412, 412, 412, 412, 412, 376, 388], 222, by decide +kernel, by decide, by decide +kernel⟩
set_option maxRecDepth 100000 in
theorem d_S_run_256 : Dc m_S_run 256 (.iload_n 2) 1 257 := ⟨by decide +kernel, rfl⟩
set_option maxRecDepth 100000 in
theorem d_S_run_257 : Dc m_S_run 257 (.iload 4) 2 259 := ⟨by decide +kernel, rfl⟩
set_option maxRecDepth 100000 in
theorem d_S_run_259 : Dc m_S_run 259 .iadd 1 260 := ⟨by decide +kernel, rfl⟩
set_option maxRecDepth 100000 in
theorem d_S_run_260 : Dc m_S_run 260 .ireturn 1 261 := ⟨by decide +kernel, rfl⟩
set_option maxRecDepth 100000 in
theorem d_S_run_261 : Dc m_S_run 261 (.aload_n 0) 1 262 := ⟨by decide +kernel, rfl⟩
set_option maxRecDepth 100000 in
theorem d_S_run_262 : Dc m_S_run 262 (.aload_n 0) 1 263 := ⟨by decide +kernel, rfl⟩
set_option maxRecDepth 100000 in
theorem d_S_run_263 : Dc m_S_run 263 (.iconst 0) 1 264 := ⟨by decide +kernel, rfl⟩
set_option maxRecDepth 100000 in
theorem d_S_run_264 : Dc m_S_run 264 (.invokevirtual 375) 3 267 := ⟨by decide +kernel, rfl⟩
set_option maxRecDepth 100000 in
theorem d_S_run_267 : Dc m_S_run 267 (.iload_n 2) 1 268 := ⟨by decide +kernel, rfl⟩
set_option maxRecDepth 100000 in
theorem d_S_run_268 : Dc m_S_run 268 (.iload 6) 2 270 := ⟨by decide +kernel, rfl⟩
set_option maxRecDepth 100000 in
theorem d_S_run_270 : Dc m_S_run 270 (.invokestatic 378) 3 273 := ⟨by decide +kernel, rfl⟩
set_option maxRecDepth 100000 in
theorem d_S_run_273 : Dc m_S_run 273 (.iconst 2) 1 274 := ⟨by decide +kernel, rfl⟩
set_option maxRecDepth 100000 in
theorem d_S_run_274 : Dc m_S_run 274 .imul 1 275 := ⟨by decide +kernel, rfl⟩
set_option maxRecDepth 100000 in
theorem d_S_run_275 : Dc m_S_run 275 .ireturn 1 276 := ⟨by decide +kernel, rfl⟩
set_option maxRecDepth 100000 in
theorem d_S_run_276 : Dc m_S_run 276 (.aload_n 0) 1 277 := ⟨by decide +kernel, rfl⟩
set_option maxRecDepth 100000 in
theorem d_S_run_277 : Dc m_S_run 277 (.iload_n 2) 1 278 := ⟨by decide +kernel, rfl⟩
set_option maxRecDepth 100000 in
theorem d_S_run_278 : Dc m_S_run 278 (.invokevirtual 404) 3 281 := ⟨by decide +kernel, rfl⟩
set_option maxRecDepth 100000 in
theorem d_S_run_281 : Dc m_S_run 281 .ireturn 1 282 := ⟨by decide +kernel, rfl⟩
set_option maxRecDepth 100000 in
theorem d_S_run_282 : Dc m_S_run 282 (.aload_n 0) 1 283 := ⟨by decide +kernel, rfl⟩
set_option maxRecDepth 100000 in
theorem d_S_run_283 : Dc m_S_run 283 (.aload_n 0) 1 284 := ⟨by decide +kernel, rfl⟩
set_option maxRecDepth 100000 in
theorem d_S_run_284 : Dc m_S_run 284 (.iconst 1) 1 285 := ⟨by decide +kernel, rfl⟩
set_option maxRecDepth 100000 in
theorem d_S_run_285 : Dc m_S_run 285 (.invokevirtual 375) 3 288 := ⟨by decide +kernel, rfl⟩
set_option maxRecDepth 100000 in
theorem d_S_run_288 : Dc m_S_run 288 (.iload_n 2) 1 289 := ⟨by decide +kernel, rfl⟩
set_option maxRecDepth 100000 in
theorem d_S_run_289 : Dc m_S_run 289 (.iload 6) 2 291 := ⟨by decide +kernel, rfl⟩
set_option maxRecDepth 100000 in
theorem d_S_run_291 : Dc m_S_run 291 (.invokestatic 378) 3 294 := ⟨by decide +kernel, rfl⟩
set_option maxRecDepth 100000 in
theorem d_S_run_294 : Dc m_S_run 294 (.iload 5) 2 296 := ⟨by decide +kernel, rfl⟩
set_option maxRecDepth 100000 in
theorem d_S_run_296 : Dc m_S_run 296 .ixor 1 297 := ⟨by decide +kernel, rfl⟩
set_option maxRecDepth 100000 in
theorem d_S_run_297 : Dc m_S_run 297 .ireturn 1 298 := ⟨by decide +kernel, rfl⟩
set_option maxRecDepth 100000 in
theorem d_S_run_298 : Dc m_S_run 298 (.aload_n 0) 1 299 := ⟨by decide +kernel, rfl⟩
set_option maxRecDepth 100000 in
theorem d_S_run_299 : Dc m_S_run 299 (.bipush (11)) 2 301 := ⟨by decide +kernel, rfl⟩
set_option maxRecDepth 100000 in
theorem d_S_run_301 : Dc m_S_run 301 (.iload_n 2) 1 302 := ⟨by decide +kernel, rfl⟩
set_option maxRecDepth 100000 in
theorem d_S_run_302 : Dc m_S_run 302 (.iload 6) 2 304 := ⟨by decide +kernel, rfl⟩
set_option maxRecDepth 100000 in
theorem d_S_run_304 : Dc m_S_run 304 (.invokestatic 378) 3 307 := ⟨by decide +kernel, rfl⟩
set_option maxRecDepth 100000 in
theorem d_S_run_307 : Dc m_S_run 307 (.iload 5) 2 309 := ⟨by decide +kernel, rfl⟩
set_option maxRecDepth 100000 in
theorem d_S_run_309 : Dc m_S_run 309 .isub 1 310 := ⟨by decide +kernel, rfl⟩
set_option maxRecDepth 100000 in
theorem d_S_run_310 : Dc m_S_run 310 .ireturn 1 311 := ⟨by decide +kernel, rfl⟩
set_option maxRecDepth 100000 in
theorem d_S_run_311 : Dc m_S_run 311 (.aload_n 0) 1 312 := ⟨by decide +kernel, rfl⟩
set_option maxRecDepth 100000 in
theorem d_S_run_312 : Dc m_S_run 312 (.bipush (10)) 2 314 := ⟨by decide +kernel, rfl⟩
set_option maxRecDepth 100000 in
theorem d_S_run_314 : Dc m_S_run 314 (.iload_n 2) 1 315 := ⟨by decide +kernel, rfl⟩
set_option maxRecDepth 100000 in
theorem d_S_run_315 : Dc m_S_run 315 (.iload 6) 2 317 := ⟨by decide +kernel, rfl⟩
set_option maxRecDepth 100000 in
theorem d_S_run_317 : Dc m_S_run 317 (.invokestatic 378) 3 320 := ⟨by decide +kernel, rfl⟩
set_option maxRecDepth 100000 in
theorem d_S_run_320 : Dc m_S_run 320 (.iconst 3) 1 321 := ⟨by decide +kernel, rfl⟩
set_option maxRecDepth 100000 in
theorem d_S_run_321 : Dc m_S_run 321 .imul 1 322 := ⟨by decide +kernel, rfl⟩
set_option maxRecDepth 100000 in
theorem d_S_run_322 : Dc m_S_run 322 .ireturn 1 323 := ⟨by decide +kernel, rfl⟩
set_option maxRecDepth 100000 in
theorem d_S_run_323 : Dc m_S_run 323 (.aload_n 0) 1 324 := ⟨by decide +kernel, rfl⟩
set_option maxRecDepth 100000 in
theorem d_S_run_324 : Dc m_S_run 324 (.bipush (13)) 2 326 := ⟨by decide +kernel, rfl⟩
set_option maxRecDepth 100000 in
theorem d_S_run_326 : Dc m_S_run 326 (.iload_n 2) 1 327 := ⟨by decide +kernel, rfl⟩
set_option maxRecDepth 100000 in
theorem d_S_run_327 : Dc m_S_run 327 (.iload 6) 2 329 := ⟨by decide +kernel, rfl⟩
set_option maxRecDepth 100000 in
theorem d_S_run_329 : Dc m_S_run 329 (.invokestatic 378) 3 332 := ⟨by decide +kernel, rfl⟩
set_option maxRecDepth 100000 in
theorem d_S_run_332 : Dc m_S_run 332 (.aload_n 0) 1 333 := ⟨by decide +kernel, rfl⟩
set_option maxRecDepth 100000 in
theorem d_S_run_333 : Dc m_S_run 333 (.aload_n 0) 1 334 := ⟨by decide +kernel, rfl⟩
set_option maxRecDepth 100000 in
theorem d_S_run_334 : Dc m_S_run 334 (.iconst 2) 1 335 := ⟨by decide +kernel, rfl⟩
set_option maxRecDepth 100000 in
theorem d_S_run_335 : Dc m_S_run 335 (.invokevirtual 375) 3 338 := ⟨by decide +kernel, rfl⟩
set_option maxRecDepth 100000 in
theorem d_S_run_338 : Dc m_S_run 338 (.iload 4) 2 340 := ⟨by decide +kernel, rfl⟩
set_option maxRecDepth 100000 in
theorem d_S_run_340 : Dc m_S_run 340 (.iload 6) 2 342 := ⟨by decide +kernel, rfl⟩
set_option maxRecDepth 100000 in
theorem d_S_run_342 : Dc m_S_run 342 (.invokestatic 378) 3 345 := ⟨by decide +kernel, rfl⟩
set_option maxRecDepth 100000 in
theorem d_S_run_345 : Dc m_S_run 345 .iadd 1 346 := ⟨by decide +kernel, rfl⟩
set_option maxRecDepth 100000 in
theorem d_S_run_346 : Dc m_S_run 346 .ireturn 1 347 := ⟨by decide +kernel, rfl⟩
set_option maxRecDepth 100000 in
theorem d_S_run_347 : Dc m_S_run 347 (.iconst 0) 1 348 := ⟨by decide +kernel, rfl⟩
set_option maxRecDepth 100000 in
theorem d_S_run_348 : Dc m_S_run 348 (.aload_n 0) 1 349 := ⟨by decide +kernel, rfl⟩
set_option maxRecDepth 100000 in
theorem d_S_run_349 : Dc m_S_run 349 (.bipush (30)) 2 351 := ⟨by decide +kernel, rfl⟩
set_option maxRecDepth 100000 in
theorem d_S_run_351 : Dc m_S_run 351 (.iload_n 2) 1 352 := ⟨by decide +kernel, rfl⟩
set_option maxRecDepth 100000 in
theorem d_S_run_352 : Dc m_S_run 352 (.iload 6) 2 354 := ⟨by decide +kernel, rfl⟩
set_option maxRecDepth 100000 in
theorem d_S_run_354 : Dc m_S_run 354 (.invokestatic 378) 3 357 := ⟨by decide +kernel, rfl⟩
set_option maxRecDepth 100000 in
theorem d_S_run_357 : Dc m_S_run 357 .isub 1 358 := ⟨by decide +kernel, rfl⟩
set_option maxRecDepth 100000 in
theorem d_S_run_358 : Dc m_S_run 358 .ireturn 1 359 := ⟨by decide +kernel, rfl⟩
set_option maxRecDepth 100000 in
theorem d_S_run_359 : Dc m_S_run 359 (.aload_n 0) 1 360 := ⟨by decide +kernel, rfl⟩
set_option maxRecDepth 100000 in
theorem d_S_run_360 : Dc m_S_run 360 (.bipush (11)) 2 362 := ⟨by decide +kernel, rfl⟩
set_option maxRecDepth 100000 in
theorem d_S_run_362 : Dc m_S_run 362 (.iload_n 2) 1 363 := ⟨by decide +kernel, rfl⟩
set_option maxRecDepth 100000 in
theorem d_S_run_363 : Dc m_S_run 363 (.iload 6) 2 365 := ⟨by decide +kernel, rfl⟩
set_option maxRecDepth 100000 in
theorem d_S_run_365 : Dc m_S_run 365 (.invokestatic 378) 3 368 := ⟨by decide +kernel, rfl⟩
set_option maxRecDepth 100000 in
theorem d_S_run_368 : Dc m_S_run 368 (.aload_n 0) 1 369 := ⟨by decide +kernel, rfl⟩
set_option maxRecDepth 100000 in
theorem d_S_run_369 : Dc m_S_run 369 (.aload_n 0) 1 370 := ⟨by decide +kernel, rfl⟩
set_option maxRecDepth 100000 in
theorem d_S_run_370 : Dc m_S_run 370 (.iconst 0) 1 371 := ⟨by decide +kernel, rfl⟩
set_option maxRecDepth 100000 in
theorem d_S_run_371 : Dc m_S_run 371 (.invokevirtual 375) 3 374 := ⟨by decide +kernel, rfl⟩
set_option maxRecDepth 100000 in
theorem d_S_run_374 : Dc m_S_run 374 (.iload 4) 2 376 := ⟨by decide +kernel, rfl⟩
set_option maxRecDepth 100000 in
theorem d_S_run_376 : Dc m_S_run 376 (.iload 6) 2 378 := ⟨by decide +kernel, rfl⟩
set_option maxRecDepth 100000 in
theorem d_S_run_378 : Dc m_S_run 378 (.invokestatic 378) 3 381 := ⟨by decide +kernel, rfl⟩
set_option maxRecDepth 100000 in
theorem d_S_run_381 : Dc m_S_run 381 .iadd 1 382 := ⟨by decide +kernel, rfl⟩
set_option maxRecDepth 100000 in
theorem d_S_run_382 : Dc m_S_run 382 .ireturn 1 383 := ⟨by decide +kernel, rfl⟩
set_option maxRecDepth 100000 in
theorem d_S_run_383 : Dc m_S_run 383 (.aload_n 0) 1 384 := ⟨by decide +kernel, rfl⟩
set_option maxRecDepth 100000 in
theorem d_S_run_384 : Dc m_S_run 384 (.bipush (12)) 2 386 := ⟨by decide +kernel, rfl⟩
set_option maxRecDepth 100000 in
theorem d_S_run_386 : Dc m_S_run 386 (.iload_n 2) 1 387 := ⟨by decide +kernel, rfl⟩
set_option maxRecDepth 100000 in
theorem d_S_run_387 : Dc m_S_run 387 (.iconst 2) 1 388 := ⟨by decide +kernel, rfl⟩
set_option maxRecDepth 100000 in
theorem d_S_run_388 : Dc m_S_run 388 .iadd 1 389 := ⟨by decide +kernel, rfl⟩
set_option maxRecDepth 100000 in
theorem d_S_run_389 : Dc m_S_run 389 (.iload 6) 2 391 := ⟨by decide +kernel, rfl⟩
set_option maxRecDepth 100000 in
theorem d_S_run_391 : Dc m_S_run 391 (.invokestatic 378) 3 394 := ⟨by decide +kernel, rfl⟩
set_option maxRecDepth 100000 in
theorem d_S_run_394 : Dc m_S_run 394 (.iconst 1) 1 395 := ⟨by decide +kernel, rfl⟩
set_option maxRecDepth 100000 in
theorem d_S_run_395 : Dc m_S_run 395 .ixor 1 396 := ⟨by decide +kernel, rfl⟩
set_option maxRecDepth 100000 in
theorem d_S_run_396 : Dc m_S_run 396 .ireturn 1 397 := ⟨by decide +kernel, rfl⟩
set_option maxRecDepth 100000 in
theorem d_S_run_397 : Dc m_S_run 397 (.aload_n 0) 1 398 := ⟨by decide +kernel, rfl⟩
set_option maxRecDepth 100000 in
theorem d_S_run_398 : Dc m_S_run 398 (.bipush (10)) 2 400 := ⟨by decide +kernel, rfl⟩
set_option maxRecDepth 100000 in
theorem d_S_run_400 : Dc m_S_run 400 (.iload_n 2) 1 401 := ⟨by decide +kernel, rfl⟩
set_option maxRecDepth 100000 in
theorem d_S_run_401 : Dc m_S_run 401 (.iload 6) 2 403 := ⟨by decide +kernel, rfl⟩
set_option maxRecDepth 100000 in
theorem d_S_run_403 : Dc m_S_run 403 (.invokestatic 378) 3 406 := ⟨by decide +kernel, rfl⟩
set_option maxRecDepth 100000 in
theorem d_S_run_406 : Dc m_S_run 406 (.iload 4) 2 408 := ⟨by decide +kernel, rfl⟩
set_option maxRecDepth 100000 in
theorem d_S_run_408 : Dc m_S_run 408 .isub 1 409 := ⟨by decide +kernel, rfl⟩
set_option maxRecDepth 100000 in
theorem d_S_run_409 : Dc m_S_run 409 .ireturn 1 410 := ⟨by decide +kernel, rfl⟩
set_option maxRecDepth 100000 in
theorem d_S_run_410 : Dc m_S_run 410 (.aload_n 0) 1 411 := ⟨by decide +kernel, rfl⟩
set_option maxRecDepth 100000 in
theorem d_S_run_411 : Dc m_S_run 411 (.bipush (13)) 2 413 := ⟨by decide +kernel, rfl⟩
set_option maxRecDepth 100000 in
theorem d_S_run_413 : Dc m_S_run 413 (.iload_n 2) 1 414 := ⟨by decide +kernel, rfl⟩
set_option maxRecDepth 100000 in
theorem d_S_run_414 : Dc m_S_run 414 (.iload 6) 2 416 := ⟨by decide +kernel, rfl⟩
set_option maxRecDepth 100000 in
theorem d_S_run_416 : Dc m_S_run 416 (.invokestatic 378) 3 419 := ⟨by decide +kernel, rfl⟩
set_option maxRecDepth 100000 in
theorem d_S_run_419 : Dc m_S_run 419 (.iconst 2) 1 420 := ⟨by decide +kernel, rfl⟩
set_option maxRecDepth 100000 in
theorem d_S_run_420 : Dc m_S_run 420 .imul 1 421 := ⟨by decide +kernel, rfl⟩
set_option maxRecDepth 100000 in
theorem d_S_run_421 : Dc m_S_run 421 .ireturn 1 422 := ⟨by decide +kernel, rfl⟩
set_option maxRecDepth 100000 in
theorem d_S_run_422 : Dc m_S_run 422 (.aload_n 0) 1 423 := ⟨by decide +kernel, rfl⟩
set_option maxRecDepth 100000 in
theorem d_S_run_423 : Dc m_S_run 423 (.bipush (12)) 2 425 := ⟨by decide +kernel, rfl⟩
set_option maxRecDepth 100000 in
theorem d_S_run_425 : Dc m_S_run 425 (.iload_n 2) 1 426 := ⟨by decide +kernel, rfl⟩
set_option maxRecDepth 100000 in
theorem d_S_run_426 : Dc m_S_run 426 (.iload 6) 2 428 := ⟨by decide +kernel, rfl⟩
set_option maxRecDepth 100000 in
theorem d_S_run_428 : Dc m_S_run 428 (.invokestatic 378) 3 431 := ⟨by decide +kernel, rfl⟩
set_option maxRecDepth 100000 in
theorem d_S_run_431 : Dc m_S_run 431 (.aload_n 0) 1 432 := ⟨by decide +kernel, rfl⟩
set_option maxRecDepth 100000 in
theorem d_S_run_432 : Dc m_S_run 432 (.aload_n 0) 1 433 := ⟨by decide +kernel, rfl⟩
set_option maxRecDepth 100000 in
theorem d_S_run_433 : Dc m_S_run 433 (.iconst 0) 1 434 := ⟨by decide +kernel, rfl⟩
set_option maxRecDepth 100000 in
theorem d_S_run_434 : Dc m_S_run 434 (.invokevirtual 375) 3 437 := ⟨by decide +kernel, rfl⟩
set_option maxRecDepth 100000 in
theorem d_S_run_437 : Dc m_S_run 437 (.iload 5) 2 439 := ⟨by decide +kernel, rfl⟩
set_option maxRecDepth 100000 in
theorem d_S_run_439 : Dc m_S_run 439 (.iload 6) 2 441 := ⟨by decide +kernel, rfl⟩
set_option maxRecDepth 100000 in
theorem d_S_run_441 : Dc m_S_run 441 (.invokestatic 378) 3 444 := ⟨by decide +kernel, rfl⟩
set_option maxRecDepth 100000 in
theorem d_S_run_444 : Dc m_S_run 444 .iadd 1 445 := ⟨by decide +kernel, rfl⟩
set_option maxRecDepth 100000 in
theorem d_S_run_445 : Dc m_S_run 445 .ireturn 1 446 := ⟨by decide +kernel, rfl⟩
set_option maxRecDepth 100000 in
theorem d_S_run_446 : Dc m_S_run 446 (.iconst 0) 1 447 := ⟨by decide +kernel, rfl⟩
set_option maxRecDepth 100000 in
theorem d_S_run_447 : Dc m_S_run 447 .ireturn 1 448 := ⟨by decide +kernel, rfl⟩
