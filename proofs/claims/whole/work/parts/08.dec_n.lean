set_option maxRecDepth 100000 in
theorem d_Answer_init_0 : Dc m_Answer_init 0 (.aload_n 0) 1 1 := ⟨by decide +kernel, rfl⟩
set_option maxRecDepth 100000 in
theorem d_Answer_init_1 : Dc m_Answer_init 1 (.invokespecial 3) 3 4 := ⟨by decide +kernel, rfl⟩
set_option maxRecDepth 100000 in
theorem d_Answer_init_4 : Dc m_Answer_init 4 (.aload_n 0) 1 5 := ⟨by decide +kernel, rfl⟩
set_option maxRecDepth 100000 in
theorem d_Answer_init_5 : Dc m_Answer_init 5 (.bipush (-9)) 2 7 := ⟨by decide +kernel, rfl⟩
set_option maxRecDepth 100000 in
theorem d_Answer_init_7 : Dc m_Answer_init 7 (.putfield 9) 3 10 := ⟨by decide +kernel, rfl⟩
set_option maxRecDepth 100000 in
theorem d_Answer_init_10 : Dc m_Answer_init 10 (.aload_n 0) 1 11 := ⟨by decide +kernel, rfl⟩
set_option maxRecDepth 100000 in
theorem d_Answer_init_11 : Dc m_Answer_init 11 (.iconst 3) 1 12 := ⟨by decide +kernel, rfl⟩
set_option maxRecDepth 100000 in
theorem d_Answer_init_12 : Dc m_Answer_init 12 (.putfield 15) 3 15 := ⟨by decide +kernel, rfl⟩
set_option maxRecDepth 100000 in
theorem d_Answer_init_15 : Dc m_Answer_init 15 (.aload_n 0) 1 16 := ⟨by decide +kernel, rfl⟩
set_option maxRecDepth 100000 in
theorem d_Answer_init_16 : Dc m_Answer_init 16 (.iconst 0) 1 17 := ⟨by decide +kernel, rfl⟩
set_option maxRecDepth 100000 in
theorem d_Answer_init_17 : Dc m_Answer_init 17 (.putfield 18) 3 20 := ⟨by decide +kernel, rfl⟩
set_option maxRecDepth 100000 in
theorem d_Answer_init_20 : Dc m_Answer_init 20 (.aload_n 0) 1 21 := ⟨by decide +kernel, rfl⟩
set_option maxRecDepth 100000 in
theorem d_Answer_init_21 : Dc m_Answer_init 21 (.bipush (-9)) 2 23 := ⟨by decide +kernel, rfl⟩
set_option maxRecDepth 100000 in
theorem d_Answer_init_23 : Dc m_Answer_init 23 (.putfield 21) 3 26 := ⟨by decide +kernel, rfl⟩
set_option maxRecDepth 100000 in
theorem d_Answer_init_26 : Dc m_Answer_init 26 .return_ 1 27 := ⟨by decide +kernel, rfl⟩
set_option maxRecDepth 100000 in
theorem d_Answer_find_0 : Dc m_Answer_find 0 (.aload_n 1) 1 1 := ⟨by decide +kernel, rfl⟩
set_option maxRecDepth 100000 in
theorem d_Answer_find_1 : Dc m_Answer_find 1 (.iload_n 2) 1 2 := ⟨by decide +kernel, rfl⟩
set_option maxRecDepth 100000 in
theorem d_Answer_find_2 : Dc m_Answer_find 2 (.iload_n 3) 1 3 := ⟨by decide +kernel, rfl⟩
set_option maxRecDepth 100000 in
theorem d_Answer_find_3 : Dc m_Answer_find 3 (.aload 4) 2 5 := ⟨by decide +kernel, rfl⟩
set_option maxRecDepth 100000 in
theorem d_Answer_find_5 : Dc m_Answer_find 5 (.iconst 1) 1 6 := ⟨by decide +kernel, rfl⟩
set_option maxRecDepth 100000 in
theorem d_Answer_find_6 : Dc m_Answer_find 6 .iaload 1 7 := ⟨by decide +kernel, rfl⟩
set_option maxRecDepth 100000 in
theorem d_Answer_find_7 : Dc m_Answer_find 7 (.invokevirtual 24) 3 10 := ⟨by decide +kernel, rfl⟩
set_option maxRecDepth 100000 in
theorem d_Answer_find_10 : Dj m_Answer_find 10 (.ifCond .eq) 13 31 := ⟨21, by decide +kernel, rfl, by decide⟩
set_option maxRecDepth 100000 in
theorem d_Answer_find_13 : Dc m_Answer_find 13 (.aload_n 0) 1 14 := ⟨by decide +kernel, rfl⟩
set_option maxRecDepth 100000 in
theorem d_Answer_find_14 : Dc m_Answer_find 14 (.iload_n 2) 1 15 := ⟨by decide +kernel, rfl⟩
set_option maxRecDepth 100000 in
theorem d_Answer_find_15 : Dc m_Answer_find 15 (.invokestatic 30) 3 18 := ⟨by decide +kernel, rfl⟩
set_option maxRecDepth 100000 in
theorem d_Answer_find_18 : Dc m_Answer_find 18 (.iconst 0) 1 19 := ⟨by decide +kernel, rfl⟩
set_option maxRecDepth 100000 in
theorem d_Answer_find_19 : Dc m_Answer_find 19 (.aload_n 1) 1 20 := ⟨by decide +kernel, rfl⟩
set_option maxRecDepth 100000 in
theorem d_Answer_find_20 : Dc m_Answer_find 20 (.iload_n 2) 1 21 := ⟨by decide +kernel, rfl⟩
set_option maxRecDepth 100000 in
theorem d_Answer_find_21 : Dc m_Answer_find 21 (.iload_n 3) 1 22 := ⟨by decide +kernel, rfl⟩
set_option maxRecDepth 100000 in
theorem d_Answer_find_22 : Dc m_Answer_find 22 (.invokevirtual 34) 3 25 := ⟨by decide +kernel, rfl⟩
set_option maxRecDepth 100000 in
theorem d_Answer_find_25 : Dc m_Answer_find 25 (.bipush (-9)) 2 27 := ⟨by decide +kernel, rfl⟩
set_option maxRecDepth 100000 in
theorem d_Answer_find_27 : Dc m_Answer_find 27 (.invokevirtual 38) 3 30 := ⟨by decide +kernel, rfl⟩
set_option maxRecDepth 100000 in
theorem d_Answer_find_30 : Dc m_Answer_find 30 .return_ 1 31 := ⟨by decide +kernel, rfl⟩
set_option maxRecDepth 100000 in
theorem d_Answer_find_31 : Dc m_Answer_find 31 (.aload_n 1) 1 32 := ⟨by decide +kernel, rfl⟩
set_option maxRecDepth 100000 in
theorem d_Answer_find_32 : Dc m_Answer_find 32 (.iload_n 2) 1 33 := ⟨by decide +kernel, rfl⟩
set_option maxRecDepth 100000 in
theorem d_Answer_find_33 : Dc m_Answer_find 33 (.iload_n 3) 1 34 := ⟨by decide +kernel, rfl⟩
set_option maxRecDepth 100000 in
theorem d_Answer_find_34 : Dc m_Answer_find 34 (.aload 4) 2 36 := ⟨by decide +kernel, rfl⟩
set_option maxRecDepth 100000 in
theorem d_Answer_find_36 : Dc m_Answer_find 36 (.iconst 1) 1 37 := ⟨by decide +kernel, rfl⟩
set_option maxRecDepth 100000 in
theorem d_Answer_find_37 : Dc m_Answer_find 37 .iaload 1 38 := ⟨by decide +kernel, rfl⟩
set_option maxRecDepth 100000 in
theorem d_Answer_find_38 : Dc m_Answer_find 38 (.invokestatic 42) 3 41 := ⟨by decide +kernel, rfl⟩
set_option maxRecDepth 100000 in
theorem d_Answer_find_41 : Dc m_Answer_find 41 (.istore 5) 2 43 := ⟨by decide +kernel, rfl⟩
set_option maxRecDepth 100000 in
theorem d_Answer_find_43 : Dc m_Answer_find 43 (.iload 5) 2 45 := ⟨by decide +kernel, rfl⟩
set_option maxRecDepth 100000 in
theorem d_Answer_find_45 : Dj m_Answer_find 45 (.ifCond .lt) 48 81 := ⟨36, by decide +kernel, rfl, by decide⟩
set_option maxRecDepth 100000 in
theorem d_Answer_find_48 : Dc m_Answer_find 48 (.iload_n 3) 1 49 := ⟨by decide +kernel, rfl⟩
set_option maxRecDepth 100000 in
theorem d_Answer_find_49 : Dc m_Answer_find 49 (.aload_n 1) 1 50 := ⟨by decide +kernel, rfl⟩
set_option maxRecDepth 100000 in
theorem d_Answer_find_50 : Dc m_Answer_find 50 (.invokevirtual 46) 3 53 := ⟨by decide +kernel, rfl⟩
set_option maxRecDepth 100000 in
theorem d_Answer_find_53 : Dc m_Answer_find 53 .isub 1 54 := ⟨by decide +kernel, rfl⟩
set_option maxRecDepth 100000 in
theorem d_Answer_find_54 : Dc m_Answer_find 54 (.istore 6) 2 56 := ⟨by decide +kernel, rfl⟩
set_option maxRecDepth 100000 in
theorem d_Answer_find_56 : Dc m_Answer_find 56 (.aload_n 0) 1 57 := ⟨by decide +kernel, rfl⟩
set_option maxRecDepth 100000 in
theorem d_Answer_find_57 : Dc m_Answer_find 57 (.iload_n 2) 1 58 := ⟨by decide +kernel, rfl⟩
set_option maxRecDepth 100000 in
theorem d_Answer_find_58 : Dc m_Answer_find 58 (.invokestatic 30) 3 61 := ⟨by decide +kernel, rfl⟩
set_option maxRecDepth 100000 in
theorem d_Answer_find_61 : Dc m_Answer_find 61 (.iconst 1) 1 62 := ⟨by decide +kernel, rfl⟩
set_option maxRecDepth 100000 in
theorem d_Answer_find_62 : Dc m_Answer_find 62 (.aload_n 1) 1 63 := ⟨by decide +kernel, rfl⟩
set_option maxRecDepth 100000 in
theorem d_Answer_find_63 : Dc m_Answer_find 63 (.iload 5) 2 65 := ⟨by decide +kernel, rfl⟩
set_option maxRecDepth 100000 in
theorem d_Answer_find_65 : Dc m_Answer_find 65 (.iload 6) 2 67 := ⟨by decide +kernel, rfl⟩
set_option maxRecDepth 100000 in
theorem d_Answer_find_67 : Dc m_Answer_find 67 (.invokevirtual 34) 3 70 := ⟨by decide +kernel, rfl⟩
set_option maxRecDepth 100000 in
theorem d_Answer_find_70 : Dc m_Answer_find 70 (.aload_n 1) 1 71 := ⟨by decide +kernel, rfl⟩
set_option maxRecDepth 100000 in
theorem d_Answer_find_71 : Dc m_Answer_find 71 (.invokevirtual 46) 3 74 := ⟨by decide +kernel, rfl⟩
set_option maxRecDepth 100000 in
theorem d_Answer_find_74 : Dc m_Answer_find 74 .iadd 1 75 := ⟨by decide +kernel, rfl⟩
set_option maxRecDepth 100000 in
theorem d_Answer_find_75 : Dc m_Answer_find 75 (.iload 5) 2 77 := ⟨by decide +kernel, rfl⟩
set_option maxRecDepth 100000 in
theorem d_Answer_find_77 : Dc m_Answer_find 77 (.invokevirtual 38) 3 80 := ⟨by decide +kernel, rfl⟩
set_option maxRecDepth 100000 in
theorem d_Answer_find_80 : Dc m_Answer_find 80 .return_ 1 81 := ⟨by decide +kernel, rfl⟩
set_option maxRecDepth 100000 in
theorem d_Answer_find_81 : Dc m_Answer_find 81 (.aload_n 1) 1 82 := ⟨by decide +kernel, rfl⟩
set_option maxRecDepth 100000 in
theorem d_Answer_find_82 : Dc m_Answer_find 82 (.iload_n 2) 1 83 := ⟨by decide +kernel, rfl⟩
set_option maxRecDepth 100000 in
theorem d_Answer_find_83 : Dc m_Answer_find 83 (.iload_n 3) 1 84 := ⟨by decide +kernel, rfl⟩
set_option maxRecDepth 100000 in
theorem d_Answer_find_84 : Dc m_Answer_find 84 (.invokestatic 50) 3 87 := ⟨by decide +kernel, rfl⟩
set_option maxRecDepth 100000 in
theorem d_Answer_find_87 : Dc m_Answer_find 87 (.istore 6) 2 89 := ⟨by decide +kernel, rfl⟩
set_option maxRecDepth 100000 in
theorem d_Answer_find_89 : Dc m_Answer_find 89 (.iload 6) 2 91 := ⟨by decide +kernel, rfl⟩
set_option maxRecDepth 100000 in
theorem d_Answer_find_91 : Dj m_Answer_find 91 (.ifCond .lt) 94 120 := ⟨29, by decide +kernel, rfl, by decide⟩
set_option maxRecDepth 100000 in
theorem d_Answer_find_94 : Dc m_Answer_find 94 (.aload_n 1) 1 95 := ⟨by decide +kernel, rfl⟩
set_option maxRecDepth 100000 in
theorem d_Answer_find_95 : Dc m_Answer_find 95 (.getfield 54) 3 98 := ⟨by decide +kernel, rfl⟩
set_option maxRecDepth 100000 in
theorem d_Answer_find_98 : Dc m_Answer_find 98 (.iconst 5) 1 99 := ⟨by decide +kernel, rfl⟩
set_option maxRecDepth 100000 in
theorem d_Answer_find_99 : Dj m_Answer_find 99 (.if_icmp .eq) 102 116 := ⟨17, by decide +kernel, rfl, by decide⟩
set_option maxRecDepth 100000 in
theorem d_Answer_find_102 : Dc m_Answer_find 102 (.aload_n 1) 1 103 := ⟨by decide +kernel, rfl⟩
set_option maxRecDepth 100000 in
theorem d_Answer_find_103 : Dc m_Answer_find 103 (.iload 6) 2 105 := ⟨by decide +kernel, rfl⟩
set_option maxRecDepth 100000 in
theorem d_Answer_find_105 : Dc m_Answer_find 105 (.iload_n 3) 1 106 := ⟨by decide +kernel, rfl⟩
set_option maxRecDepth 100000 in
theorem d_Answer_find_106 : Dc m_Answer_find 106 (.invokevirtual 57) 3 109 := ⟨by decide +kernel, rfl⟩
set_option maxRecDepth 100000 in
theorem d_Answer_find_109 : Dc m_Answer_find 109 (.aload 4) 2 111 := ⟨by decide +kernel, rfl⟩
set_option maxRecDepth 100000 in
theorem d_Answer_find_111 : Dc m_Answer_find 111 (.iconst 2) 1 112 := ⟨by decide +kernel, rfl⟩
set_option maxRecDepth 100000 in
theorem d_Answer_find_112 : Dc m_Answer_find 112 .iaload 1 113 := ⟨by decide +kernel, rfl⟩
set_option maxRecDepth 100000 in
theorem d_Answer_find_113 : Dj m_Answer_find 113 (.if_icmp .lt) 116 120 := ⟨7, by decide +kernel, rfl, by decide⟩
set_option maxRecDepth 100000 in
theorem d_Answer_find_116 : Dc m_Answer_find 116 (.iconst 1) 1 117 := ⟨by decide +kernel, rfl⟩
set_option maxRecDepth 100000 in
theorem d_Answer_find_117 : Dj m_Answer_find 117 .goto 120 121 := ⟨4, by decide +kernel, rfl, by decide⟩
set_option maxRecDepth 100000 in
theorem d_Answer_find_120 : Dc m_Answer_find 120 (.iconst 0) 1 121 := ⟨by decide +kernel, rfl⟩
set_option maxRecDepth 100000 in
theorem d_Answer_find_121 : Dc m_Answer_find 121 (.istore 7) 2 123 := ⟨by decide +kernel, rfl⟩
set_option maxRecDepth 100000 in
theorem d_Answer_find_123 : Dc m_Answer_find 123 (.iload 7) 2 125 := ⟨by decide +kernel, rfl⟩
set_option maxRecDepth 100000 in
theorem d_Answer_find_125 : Dj m_Answer_find 125 (.ifCond .eq) 128 144 := ⟨19, by decide +kernel, rfl, by decide⟩
set_option maxRecDepth 100000 in
theorem d_Answer_find_128 : Dc m_Answer_find 128 (.aload_n 0) 1 129 := ⟨by decide +kernel, rfl⟩
set_option maxRecDepth 100000 in
theorem d_Answer_find_129 : Dc m_Answer_find 129 (.iload 6) 2 131 := ⟨by decide +kernel, rfl⟩
set_option maxRecDepth 100000 in
theorem d_Answer_find_131 : Dc m_Answer_find 131 (.invokestatic 30) 3 134 := ⟨by decide +kernel, rfl⟩
set_option maxRecDepth 100000 in
theorem d_Answer_find_134 : Dc m_Answer_find 134 (.iconst 2) 1 135 := ⟨by decide +kernel, rfl⟩
set_option maxRecDepth 100000 in
theorem d_Answer_find_135 : Dc m_Answer_find 135 (.iload_n 3) 1 136 := ⟨by decide +kernel, rfl⟩
set_option maxRecDepth 100000 in
theorem d_Answer_find_136 : Dc m_Answer_find 136 (.iload 6) 2 138 := ⟨by decide +kernel, rfl⟩
set_option maxRecDepth 100000 in
theorem d_Answer_find_138 : Dc m_Answer_find 138 (.invokevirtual 38) 3 141 := ⟨by decide +kernel, rfl⟩
set_option maxRecDepth 100000 in
theorem d_Answer_find_141 : Dj m_Answer_find 141 .goto 144 154 := ⟨13, by decide +kernel, rfl, by decide⟩
set_option maxRecDepth 100000 in
theorem d_Answer_find_144 : Dc m_Answer_find 144 (.aload_n 0) 1 145 := ⟨by decide +kernel, rfl⟩
set_option maxRecDepth 100000 in
theorem d_Answer_find_145 : Dc m_Answer_find 145 (.bipush (-9)) 2 147 := ⟨by decide +kernel, rfl⟩
set_option maxRecDepth 100000 in
theorem d_Answer_find_147 : Dc m_Answer_find 147 (.iconst 3) 1 148 := ⟨by decide +kernel, rfl⟩
set_option maxRecDepth 100000 in
theorem d_Answer_find_148 : Dc m_Answer_find 148 (.iload_n 3) 1 149 := ⟨by decide +kernel, rfl⟩
set_option maxRecDepth 100000 in
theorem d_Answer_find_149 : Dc m_Answer_find 149 (.bipush (-9)) 2 151 := ⟨by decide +kernel, rfl⟩
set_option maxRecDepth 100000 in
theorem d_Answer_find_151 : Dc m_Answer_find 151 (.invokevirtual 38) 3 154 := ⟨by decide +kernel, rfl⟩
set_option maxRecDepth 100000 in
theorem d_Answer_find_154 : Dc m_Answer_find 154 .return_ 1 155 := ⟨by decide +kernel, rfl⟩
set_option maxRecDepth 100000 in
theorem d_Answer_isProduct_0 : Dc m_Answer_isProduct 0 (.aload_n 0) 1 1 := ⟨by decide +kernel, rfl⟩
set_option maxRecDepth 100000 in
theorem d_Answer_isProduct_1 : Dc m_Answer_isProduct 1 (.getfield 15) 3 4 := ⟨by decide +kernel, rfl⟩
set_option maxRecDepth 100000 in
theorem d_Answer_isProduct_4 : Dj m_Answer_isProduct 4 (.ifCond .eq) 7 15 := ⟨11, by decide +kernel, rfl, by decide⟩
set_option maxRecDepth 100000 in
theorem d_Answer_isProduct_7 : Dc m_Answer_isProduct 7 (.aload_n 0) 1 8 := ⟨by decide +kernel, rfl⟩
set_option maxRecDepth 100000 in
theorem d_Answer_isProduct_8 : Dc m_Answer_isProduct 8 (.getfield 15) 3 11 := ⟨by decide +kernel, rfl⟩
set_option maxRecDepth 100000 in
theorem d_Answer_isProduct_11 : Dc m_Answer_isProduct 11 (.iconst 1) 1 12 := ⟨by decide +kernel, rfl⟩
set_option maxRecDepth 100000 in
theorem d_Answer_isProduct_12 : Dj m_Answer_isProduct 12 (.if_icmp .ne) 15 19 := ⟨7, by decide +kernel, rfl, by decide⟩
set_option maxRecDepth 100000 in
theorem d_Answer_isProduct_15 : Dc m_Answer_isProduct 15 (.iconst 1) 1 16 := ⟨by decide +kernel, rfl⟩
set_option maxRecDepth 100000 in
theorem d_Answer_isProduct_16 : Dj m_Answer_isProduct 16 .goto 19 20 := ⟨4, by decide +kernel, rfl, by decide⟩
set_option maxRecDepth 100000 in
theorem d_Answer_isProduct_19 : Dc m_Answer_isProduct 19 (.iconst 0) 1 20 := ⟨by decide +kernel, rfl⟩
set_option maxRecDepth 100000 in
theorem d_Answer_isProduct_20 : Dc m_Answer_isProduct 20 .ireturn 1 21 := ⟨by decide +kernel, rfl⟩
set_option maxRecDepth 100000 in
theorem d_Answer_become_0 : Dc m_Answer_become 0 (.aload_n 0) 1 1 := ⟨by decide +kernel, rfl⟩
set_option maxRecDepth 100000 in
theorem d_Answer_become_1 : Dc m_Answer_become 1 (.iload_n 1) 1 2 := ⟨by decide +kernel, rfl⟩
set_option maxRecDepth 100000 in
theorem d_Answer_become_2 : Dc m_Answer_become 2 (.putfield 9) 3 5 := ⟨by decide +kernel, rfl⟩
set_option maxRecDepth 100000 in
theorem d_Answer_become_5 : Dc m_Answer_become 5 (.aload_n 0) 1 6 := ⟨by decide +kernel, rfl⟩
set_option maxRecDepth 100000 in
theorem d_Answer_become_6 : Dc m_Answer_become 6 (.iload_n 2) 1 7 := ⟨by decide +kernel, rfl⟩
set_option maxRecDepth 100000 in
theorem d_Answer_become_7 : Dc m_Answer_become 7 (.putfield 15) 3 10 := ⟨by decide +kernel, rfl⟩
set_option maxRecDepth 100000 in
theorem d_Answer_become_10 : Dc m_Answer_become 10 (.aload_n 0) 1 11 := ⟨by decide +kernel, rfl⟩
set_option maxRecDepth 100000 in
theorem d_Answer_become_11 : Dc m_Answer_become 11 (.iload_n 3) 1 12 := ⟨by decide +kernel, rfl⟩
set_option maxRecDepth 100000 in
theorem d_Answer_become_12 : Dc m_Answer_become 12 (.putfield 18) 3 15 := ⟨by decide +kernel, rfl⟩
set_option maxRecDepth 100000 in
theorem d_Answer_become_15 : Dc m_Answer_become 15 (.aload_n 0) 1 16 := ⟨by decide +kernel, rfl⟩
set_option maxRecDepth 100000 in
theorem d_Answer_become_16 : Dc m_Answer_become 16 (.iload 4) 2 18 := ⟨by decide +kernel, rfl⟩
set_option maxRecDepth 100000 in
theorem d_Answer_become_18 : Dc m_Answer_become 18 (.putfield 21) 3 21 := ⟨by decide +kernel, rfl⟩
set_option maxRecDepth 100000 in
theorem d_Answer_become_21 : Dc m_Answer_become 21 .return_ 1 22 := ⟨by decide +kernel, rfl⟩
set_option maxRecDepth 100000 in
theorem d_Answer_wayRound_0 : Dc m_Answer_wayRound 0 (.aload_n 0) 1 1 := ⟨by decide +kernel, rfl⟩
set_option maxRecDepth 100000 in
theorem d_Answer_wayRound_1 : Dc m_Answer_wayRound 1 (.invokevirtual 46) 3 4 := ⟨by decide +kernel, rfl⟩
set_option maxRecDepth 100000 in
theorem d_Answer_wayRound_4 : Dc m_Answer_wayRound 4 (.istore 4) 2 6 := ⟨by decide +kernel, rfl⟩
set_option maxRecDepth 100000 in
theorem d_Answer_wayRound_6 : Dc m_Answer_wayRound 6 (.iload_n 2) 1 7 := ⟨by decide +kernel, rfl⟩
set_option maxRecDepth 100000 in
theorem d_Answer_wayRound_7 : Dc m_Answer_wayRound 7 (.iload 4) 2 9 := ⟨by decide +kernel, rfl⟩
set_option maxRecDepth 100000 in
theorem d_Answer_wayRound_9 : Dc m_Answer_wayRound 9 .isub 1 10 := ⟨by decide +kernel, rfl⟩
set_option maxRecDepth 100000 in
theorem d_Answer_wayRound_10 : Dc m_Answer_wayRound 10 (.istore 5) 2 12 := ⟨by decide +kernel, rfl⟩
set_option maxRecDepth 100000 in
theorem d_Answer_wayRound_12 : Dc m_Answer_wayRound 12 (.iload 4) 2 14 := ⟨by decide +kernel, rfl⟩
set_option maxRecDepth 100000 in
theorem d_Answer_wayRound_14 : Dc m_Answer_wayRound 14 (.bipush (-9)) 2 16 := ⟨by decide +kernel, rfl⟩
set_option maxRecDepth 100000 in
theorem d_Answer_wayRound_16 : Dj m_Answer_wayRound 16 (.if_icmp .eq) 19 25 := ⟨9, by decide +kernel, rfl, by decide⟩
set_option maxRecDepth 100000 in
theorem d_Answer_wayRound_19 : Dc m_Answer_wayRound 19 (.iload 5) 2 21 := ⟨by decide +kernel, rfl⟩
set_option maxRecDepth 100000 in
theorem d_Answer_wayRound_21 : Dc m_Answer_wayRound 21 (.iconst 1) 1 22 := ⟨by decide +kernel, rfl⟩
set_option maxRecDepth 100000 in
theorem d_Answer_wayRound_22 : Dj m_Answer_wayRound 22 (.if_icmp .ge) 25 28 := ⟨6, by decide +kernel, rfl, by decide⟩
set_option maxRecDepth 100000 in
theorem d_Answer_wayRound_25 : Dc m_Answer_wayRound 25 (.bipush (-9)) 2 27 := ⟨by decide +kernel, rfl⟩
set_option maxRecDepth 100000 in
theorem d_Answer_wayRound_27 : Dc m_Answer_wayRound 27 .ireturn 1 28 := ⟨by decide +kernel, rfl⟩
set_option maxRecDepth 100000 in
theorem d_Answer_wayRound_28 : Dc m_Answer_wayRound 28 (.iload_n 1) 1 29 := ⟨by decide +kernel, rfl⟩
set_option maxRecDepth 100000 in
theorem d_Answer_wayRound_29 : Dc m_Answer_wayRound 29 (.iconst 0) 1 30 := ⟨by decide +kernel, rfl⟩
set_option maxRecDepth 100000 in
theorem d_Answer_wayRound_30 : Dc m_Answer_wayRound 30 (.invokestatic 60) 3 33 := ⟨by decide +kernel, rfl⟩
set_option maxRecDepth 100000 in
theorem d_Answer_wayRound_33 : Dc m_Answer_wayRound 33 (.istore 6) 2 35 := ⟨by decide +kernel, rfl⟩
set_option maxRecDepth 100000 in
theorem d_Answer_wayRound_35 : Dc m_Answer_wayRound 35 (.iload 6) 2 37 := ⟨by decide +kernel, rfl⟩
set_option maxRecDepth 100000 in
theorem d_Answer_wayRound_37 : Dj m_Answer_wayRound 37 (.ifCond .lt) 40 55 := ⟨18, by decide +kernel, rfl, by decide⟩
set_option maxRecDepth 100000 in
theorem d_Answer_wayRound_40 : Dc m_Answer_wayRound 40 (.aload_n 0) 1 41 := ⟨by decide +kernel, rfl⟩
set_option maxRecDepth 100000 in
theorem d_Answer_wayRound_41 : Dc m_Answer_wayRound 41 (.iload 6) 2 43 := ⟨by decide +kernel, rfl⟩
set_option maxRecDepth 100000 in
theorem d_Answer_wayRound_43 : Dc m_Answer_wayRound 43 (.iload 5) 2 45 := ⟨by decide +kernel, rfl⟩
set_option maxRecDepth 100000 in
theorem d_Answer_wayRound_45 : Dc m_Answer_wayRound 45 (.iload_n 3) 1 46 := ⟨by decide +kernel, rfl⟩
set_option maxRecDepth 100000 in
theorem d_Answer_wayRound_46 : Dc m_Answer_wayRound 46 (.invokevirtual 24) 3 49 := ⟨by decide +kernel, rfl⟩
set_option maxRecDepth 100000 in
theorem d_Answer_wayRound_49 : Dj m_Answer_wayRound 49 (.ifCond .eq) 52 55 := ⟨6, by decide +kernel, rfl, by decide⟩
set_option maxRecDepth 100000 in
theorem d_Answer_wayRound_52 : Dc m_Answer_wayRound 52 (.iload 6) 2 54 := ⟨by decide +kernel, rfl⟩
set_option maxRecDepth 100000 in
theorem d_Answer_wayRound_54 : Dc m_Answer_wayRound 54 .ireturn 1 55 := ⟨by decide +kernel, rfl⟩
set_option maxRecDepth 100000 in
theorem d_Answer_wayRound_55 : Dc m_Answer_wayRound 55 (.iload_n 1) 1 56 := ⟨by decide +kernel, rfl⟩
set_option maxRecDepth 100000 in
theorem d_Answer_wayRound_56 : Dc m_Answer_wayRound 56 (.iconst 2) 1 57 := ⟨by decide +kernel, rfl⟩
set_option maxRecDepth 100000 in
theorem d_Answer_wayRound_57 : Dc m_Answer_wayRound 57 (.invokestatic 60) 3 60 := ⟨by decide +kernel, rfl⟩
set_option maxRecDepth 100000 in
theorem d_Answer_wayRound_60 : Dc m_Answer_wayRound 60 (.istore 7) 2 62 := ⟨by decide +kernel, rfl⟩
set_option maxRecDepth 100000 in
theorem d_Answer_wayRound_62 : Dc m_Answer_wayRound 62 (.iload 7) 2 64 := ⟨by decide +kernel, rfl⟩
set_option maxRecDepth 100000 in
theorem d_Answer_wayRound_64 : Dj m_Answer_wayRound 64 (.ifCond .lt) 67 82 := ⟨18, by decide +kernel, rfl, by decide⟩
set_option maxRecDepth 100000 in
theorem d_Answer_wayRound_67 : Dc m_Answer_wayRound 67 (.aload_n 0) 1 68 := ⟨by decide +kernel, rfl⟩
set_option maxRecDepth 100000 in
theorem d_Answer_wayRound_68 : Dc m_Answer_wayRound 68 (.iload 7) 2 70 := ⟨by decide +kernel, rfl⟩
set_option maxRecDepth 100000 in
theorem d_Answer_wayRound_70 : Dc m_Answer_wayRound 70 (.iload 5) 2 72 := ⟨by decide +kernel, rfl⟩
set_option maxRecDepth 100000 in
theorem d_Answer_wayRound_72 : Dc m_Answer_wayRound 72 (.iload_n 3) 1 73 := ⟨by decide +kernel, rfl⟩
set_option maxRecDepth 100000 in
theorem d_Answer_wayRound_73 : Dc m_Answer_wayRound 73 (.invokevirtual 24) 3 76 := ⟨by decide +kernel, rfl⟩
set_option maxRecDepth 100000 in
theorem d_Answer_wayRound_76 : Dj m_Answer_wayRound 76 (.ifCond .eq) 79 82 := ⟨6, by decide +kernel, rfl, by decide⟩
set_option maxRecDepth 100000 in
theorem d_Answer_wayRound_79 : Dc m_Answer_wayRound 79 (.iload 7) 2 81 := ⟨by decide +kernel, rfl⟩
set_option maxRecDepth 100000 in
theorem d_Answer_wayRound_81 : Dc m_Answer_wayRound 81 .ireturn 1 82 := ⟨by decide +kernel, rfl⟩
set_option maxRecDepth 100000 in
theorem d_Answer_wayRound_82 : Dc m_Answer_wayRound 82 (.bipush (-9)) 2 84 := ⟨by decide +kernel, rfl⟩
set_option maxRecDepth 100000 in
theorem d_Answer_wayRound_84 : Dc m_Answer_wayRound 84 .ireturn 1 85 := ⟨by decide +kernel, rfl⟩
set_option maxRecDepth 100000 in
theorem d_Answer_firmestTied_0 : Dc m_Answer_firmestTied 0 (.bipush (-9)) 2 2 := ⟨by decide +kernel, rfl⟩
set_option maxRecDepth 100000 in
theorem d_Answer_firmestTied_2 : Dc m_Answer_firmestTied 2 (.istore_n 3) 1 3 := ⟨by decide +kernel, rfl⟩
set_option maxRecDepth 100000 in
theorem d_Answer_firmestTied_3 : Dc m_Answer_firmestTied 3 (.iconst (-1)) 1 4 := ⟨by decide +kernel, rfl⟩
set_option maxRecDepth 100000 in
theorem d_Answer_firmestTied_4 : Dc m_Answer_firmestTied 4 (.istore 4) 2 6 := ⟨by decide +kernel, rfl⟩
set_option maxRecDepth 100000 in
theorem d_Answer_firmestTied_6 : Dc m_Answer_firmestTied 6 (.iconst 0) 1 7 := ⟨by decide +kernel, rfl⟩
set_option maxRecDepth 100000 in
theorem d_Answer_firmestTied_7 : Dc m_Answer_firmestTied 7 (.istore 5) 2 9 := ⟨by decide +kernel, rfl⟩
set_option maxRecDepth 100000 in
theorem d_Answer_firmestTied_9 : Dc m_Answer_firmestTied 9 (.iload 5) 2 11 := ⟨by decide +kernel, rfl⟩
set_option maxRecDepth 100000 in
theorem d_Answer_firmestTied_11 : Dc m_Answer_firmestTied 11 (.iconst 4) 1 12 := ⟨by decide +kernel, rfl⟩
set_option maxRecDepth 100000 in
theorem d_Answer_firmestTied_12 : Dj m_Answer_firmestTied 12 (.if_icmp .ge) 15 73 := ⟨61, by decide +kernel, rfl, by decide⟩
set_option maxRecDepth 100000 in
theorem d_Answer_firmestTied_15 : Dc m_Answer_firmestTied 15 (.iload_n 1) 1 16 := ⟨by decide +kernel, rfl⟩
set_option maxRecDepth 100000 in
theorem d_Answer_firmestTied_16 : Dc m_Answer_firmestTied 16 (.iload 5) 2 18 := ⟨by decide +kernel, rfl⟩
set_option maxRecDepth 100000 in
theorem d_Answer_firmestTied_18 : Dc m_Answer_firmestTied 18 (.invokestatic 60) 3 21 := ⟨by decide +kernel, rfl⟩
set_option maxRecDepth 100000 in
theorem d_Answer_firmestTied_21 : Dc m_Answer_firmestTied 21 (.istore 6) 2 23 := ⟨by decide +kernel, rfl⟩
set_option maxRecDepth 100000 in
theorem d_Answer_firmestTied_23 : Dc m_Answer_firmestTied 23 (.iload 6) 2 25 := ⟨by decide +kernel, rfl⟩
set_option maxRecDepth 100000 in
theorem d_Answer_firmestTied_25 : Dj m_Answer_firmestTied 25 (.ifCond .ge) 28 31 := ⟨6, by decide +kernel, rfl, by decide⟩
set_option maxRecDepth 100000 in
theorem d_Answer_firmestTied_28 : Dj m_Answer_firmestTied 28 .goto 31 67 := ⟨39, by decide +kernel, rfl, by decide⟩
set_option maxRecDepth 100000 in
theorem d_Answer_firmestTied_31 : Dc m_Answer_firmestTied 31 (.aload_n 0) 1 32 := ⟨by decide +kernel, rfl⟩
set_option maxRecDepth 100000 in
theorem d_Answer_firmestTied_32 : Dc m_Answer_firmestTied 32 (.iload 6) 2 34 := ⟨by decide +kernel, rfl⟩
set_option maxRecDepth 100000 in
theorem d_Answer_firmestTied_34 : Dc m_Answer_firmestTied 34 (.iload_n 2) 1 35 := ⟨by decide +kernel, rfl⟩
set_option maxRecDepth 100000 in
theorem d_Answer_firmestTied_35 : Dc m_Answer_firmestTied 35 (.invokevirtual 57) 3 38 := ⟨by decide +kernel, rfl⟩
set_option maxRecDepth 100000 in
theorem d_Answer_firmestTied_38 : Dc m_Answer_firmestTied 38 (.istore 7) 2 40 := ⟨by decide +kernel, rfl⟩
set_option maxRecDepth 100000 in
theorem d_Answer_firmestTied_40 : Dc m_Answer_firmestTied 40 (.iload 7) 2 42 := ⟨by decide +kernel, rfl⟩
set_option maxRecDepth 100000 in
theorem d_Answer_firmestTied_42 : Dc m_Answer_firmestTied 42 (.iload 4) 2 44 := ⟨by decide +kernel, rfl⟩
set_option maxRecDepth 100000 in
theorem d_Answer_firmestTied_44 : Dj m_Answer_firmestTied 44 (.if_icmp .gt) 47 60 := ⟨16, by decide +kernel, rfl, by decide⟩
set_option maxRecDepth 100000 in
theorem d_Answer_firmestTied_47 : Dc m_Answer_firmestTied 47 (.iload 7) 2 49 := ⟨by decide +kernel, rfl⟩
set_option maxRecDepth 100000 in
theorem d_Answer_firmestTied_49 : Dc m_Answer_firmestTied 49 (.iload 4) 2 51 := ⟨by decide +kernel, rfl⟩
set_option maxRecDepth 100000 in
theorem d_Answer_firmestTied_51 : Dj m_Answer_firmestTied 51 (.if_icmp .ne) 54 67 := ⟨16, by decide +kernel, rfl, by decide⟩
set_option maxRecDepth 100000 in
theorem d_Answer_firmestTied_54 : Dc m_Answer_firmestTied 54 (.iload 6) 2 56 := ⟨by decide +kernel, rfl⟩
set_option maxRecDepth 100000 in
theorem d_Answer_firmestTied_56 : Dc m_Answer_firmestTied 56 (.iload_n 3) 1 57 := ⟨by decide +kernel, rfl⟩
set_option maxRecDepth 100000 in
theorem d_Answer_firmestTied_57 : Dj m_Answer_firmestTied 57 (.if_icmp .ge) 60 67 := ⟨10, by decide +kernel, rfl, by decide⟩
set_option maxRecDepth 100000 in
theorem d_Answer_firmestTied_60 : Dc m_Answer_firmestTied 60 (.iload 6) 2 62 := ⟨by decide +kernel, rfl⟩
set_option maxRecDepth 100000 in
theorem d_Answer_firmestTied_62 : Dc m_Answer_firmestTied 62 (.istore_n 3) 1 63 := ⟨by decide +kernel, rfl⟩
set_option maxRecDepth 100000 in
theorem d_Answer_firmestTied_63 : Dc m_Answer_firmestTied 63 (.iload 7) 2 65 := ⟨by decide +kernel, rfl⟩
set_option maxRecDepth 100000 in
theorem d_Answer_firmestTied_65 : Dc m_Answer_firmestTied 65 (.istore 4) 2 67 := ⟨by decide +kernel, rfl⟩
set_option maxRecDepth 100000 in
theorem d_Answer_firmestTied_67 : Dc m_Answer_firmestTied 67 (.iinc 5 (1)) 3 70 := ⟨by decide +kernel, rfl⟩
set_option maxRecDepth 100000 in
theorem d_Answer_firmestTied_70 : Dj m_Answer_firmestTied 70 .goto 73 9 := ⟨-61, by decide +kernel, rfl, by decide⟩
set_option maxRecDepth 100000 in
theorem d_Answer_firmestTied_73 : Dc m_Answer_firmestTied 73 (.iload_n 3) 1 74 := ⟨by decide +kernel, rfl⟩
set_option maxRecDepth 100000 in
theorem d_Answer_firmestTied_74 : Dc m_Answer_firmestTied 74 .ireturn 1 75 := ⟨by decide +kernel, rfl⟩
set_option maxRecDepth 100000 in
theorem d_Doer_init_0 : Dc m_Doer_init 0 (.aload_n 0) 1 1 := ⟨by decide +kernel, rfl⟩
set_option maxRecDepth 100000 in
theorem d_Doer_init_1 : Dc m_Doer_init 1 (.invokespecial 3) 3 4 := ⟨by decide +kernel, rfl⟩
set_option maxRecDepth 100000 in
theorem d_Doer_init_4 : Dc m_Doer_init 4 (.aload_n 0) 1 5 := ⟨by decide +kernel, rfl⟩
set_option maxRecDepth 100000 in
theorem d_Doer_init_5 : Dc m_Doer_init 5 (.iconst 0) 1 6 := ⟨by decide +kernel, rfl⟩
set_option maxRecDepth 100000 in
theorem d_Doer_init_6 : Dc m_Doer_init 6 (.putfield 9) 3 9 := ⟨by decide +kernel, rfl⟩
set_option maxRecDepth 100000 in
theorem d_Doer_init_9 : Dc m_Doer_init 9 (.aload_n 0) 1 10 := ⟨by decide +kernel, rfl⟩
set_option maxRecDepth 100000 in
theorem d_Doer_init_10 : Dc m_Doer_init 10 (.iconst 0) 1 11 := ⟨by decide +kernel, rfl⟩
set_option maxRecDepth 100000 in
theorem d_Doer_init_11 : Dc m_Doer_init 11 (.putfield 15) 3 14 := ⟨by decide +kernel, rfl⟩
set_option maxRecDepth 100000 in
theorem d_Doer_init_14 : Dc m_Doer_init 14 (.aload_n 0) 1 15 := ⟨by decide +kernel, rfl⟩
set_option maxRecDepth 100000 in
theorem d_Doer_init_15 : Dc m_Doer_init 15 (.iconst 0) 1 16 := ⟨by decide +kernel, rfl⟩
set_option maxRecDepth 100000 in
theorem d_Doer_init_16 : Dc m_Doer_init 16 (.putfield 18) 3 19 := ⟨by decide +kernel, rfl⟩
set_option maxRecDepth 100000 in
theorem d_Doer_init_19 : Dc m_Doer_init 19 (.aload_n 0) 1 20 := ⟨by decide +kernel, rfl⟩
set_option maxRecDepth 100000 in
theorem d_Doer_init_20 : Dc m_Doer_init 20 (.iconst 0) 1 21 := ⟨by decide +kernel, rfl⟩
set_option maxRecDepth 100000 in
theorem d_Doer_init_21 : Dc m_Doer_init 21 (.putfield 21) 3 24 := ⟨by decide +kernel, rfl⟩
set_option maxRecDepth 100000 in
theorem d_Doer_init_24 : Dc m_Doer_init 24 (.aload_n 0) 1 25 := ⟨by decide +kernel, rfl⟩
set_option maxRecDepth 100000 in
theorem d_Doer_init_25 : Dc m_Doer_init 25 (.bipush (30)) 2 27 := ⟨by decide +kernel, rfl⟩
set_option maxRecDepth 100000 in
theorem d_Doer_init_27 : Dc m_Doer_init 27 (.newarray .int) 2 29 := ⟨by decide +kernel, rfl⟩
set_option maxRecDepth 100000 in
theorem d_Doer_init_29 : Dc m_Doer_init 29 (.putfield 25) 3 32 := ⟨by decide +kernel, rfl⟩
set_option maxRecDepth 100000 in
theorem d_Doer_init_32 : Dc m_Doer_init 32 (.aload_n 0) 1 33 := ⟨by decide +kernel, rfl⟩
set_option maxRecDepth 100000 in
theorem d_Doer_init_33 : Dc m_Doer_init 33 (.iconst 0) 1 34 := ⟨by decide +kernel, rfl⟩
set_option maxRecDepth 100000 in
theorem d_Doer_init_34 : Dc m_Doer_init 34 (.putfield 29) 3 37 := ⟨by decide +kernel, rfl⟩
set_option maxRecDepth 100000 in
theorem d_Doer_init_37 : Dc m_Doer_init 37 .return_ 1 38 := ⟨by decide +kernel, rfl⟩
set_option maxRecDepth 100000 in
theorem d_Doer_clear_0 : Dc m_Doer_clear 0 (.aload_n 0) 1 1 := ⟨by decide +kernel, rfl⟩
set_option maxRecDepth 100000 in
theorem d_Doer_clear_1 : Dc m_Doer_clear 1 (.iconst 0) 1 2 := ⟨by decide +kernel, rfl⟩
set_option maxRecDepth 100000 in
theorem d_Doer_clear_2 : Dc m_Doer_clear 2 (.putfield 29) 3 5 := ⟨by decide +kernel, rfl⟩
set_option maxRecDepth 100000 in
theorem d_Doer_clear_5 : Dc m_Doer_clear 5 (.aload_n 0) 1 6 := ⟨by decide +kernel, rfl⟩
set_option maxRecDepth 100000 in
theorem d_Doer_clear_6 : Dc m_Doer_clear 6 (.iconst 0) 1 7 := ⟨by decide +kernel, rfl⟩
set_option maxRecDepth 100000 in
theorem d_Doer_clear_7 : Dc m_Doer_clear 7 (.putfield 21) 3 10 := ⟨by decide +kernel, rfl⟩
set_option maxRecDepth 100000 in
theorem d_Doer_clear_10 : Dc m_Doer_clear 10 .return_ 1 11 := ⟨by decide +kernel, rfl⟩
set_option maxRecDepth 100000 in
theorem d_Doer_become_0 : Dc m_Doer_become 0 (.aload_n 0) 1 1 := ⟨by decide +kernel, rfl⟩
set_option maxRecDepth 100000 in
theorem d_Doer_become_1 : Dc m_Doer_become 1 (.iload_n 1) 1 2 := ⟨by decide +kernel, rfl⟩
set_option maxRecDepth 100000 in
theorem d_Doer_become_2 : Dc m_Doer_become 2 (.putfield 9) 3 5 := ⟨by decide +kernel, rfl⟩
set_option maxRecDepth 100000 in
theorem d_Doer_become_5 : Dc m_Doer_become 5 (.aload_n 0) 1 6 := ⟨by decide +kernel, rfl⟩
set_option maxRecDepth 100000 in
theorem d_Doer_become_6 : Dc m_Doer_become 6 (.iload_n 2) 1 7 := ⟨by decide +kernel, rfl⟩
set_option maxRecDepth 100000 in
theorem d_Doer_become_7 : Dc m_Doer_become 7 (.putfield 15) 3 10 := ⟨by decide +kernel, rfl⟩
set_option maxRecDepth 100000 in
theorem d_Doer_become_10 : Dc m_Doer_become 10 (.aload_n 0) 1 11 := ⟨by decide +kernel, rfl⟩
set_option maxRecDepth 100000 in
theorem d_Doer_become_11 : Dc m_Doer_become 11 (.iload_n 3) 1 12 := ⟨by decide +kernel, rfl⟩
set_option maxRecDepth 100000 in
theorem d_Doer_become_12 : Dc m_Doer_become 12 (.putfield 18) 3 15 := ⟨by decide +kernel, rfl⟩
set_option maxRecDepth 100000 in
theorem d_Doer_become_15 : Dc m_Doer_become 15 .return_ 1 16 := ⟨by decide +kernel, rfl⟩
set_option maxRecDepth 100000 in
theorem d_Doer_bodyOf_0 : Dc m_Doer_bodyOf 0 (.iload_n 1) 1 1 := ⟨by decide +kernel, rfl⟩
set_option maxRecDepth 100000 in
theorem d_Doer_bodyOf_1 : Ts m_Doer_bodyOf 1 [(0, 28), (1, 37), (2, 46)] 55 := ⟨54, 0, 2, [27, 36, 45], 27, by decide +kernel, by decide, by decide +kernel⟩
set_option maxRecDepth 100000 in
theorem d_Doer_bodyOf_28 : Dc m_Doer_bodyOf 28 (.getstatic 32) 3 31 := ⟨by decide +kernel, rfl⟩
set_option maxRecDepth 100000 in
theorem d_Doer_bodyOf_31 : Dc m_Doer_bodyOf 31 (.aload_n 0) 1 32 := ⟨by decide +kernel, rfl⟩
set_option maxRecDepth 100000 in
theorem d_Doer_bodyOf_32 : Dc m_Doer_bodyOf 32 (.getfield 9) 3 35 := ⟨by decide +kernel, rfl⟩
set_option maxRecDepth 100000 in
theorem d_Doer_bodyOf_35 : Dc m_Doer_bodyOf 35 .iaload 1 36 := ⟨by decide +kernel, rfl⟩
set_option maxRecDepth 100000 in
theorem d_Doer_bodyOf_36 : Dc m_Doer_bodyOf 36 .ireturn 1 37 := ⟨by decide +kernel, rfl⟩
set_option maxRecDepth 100000 in
theorem d_Doer_bodyOf_37 : Dc m_Doer_bodyOf 37 (.getstatic 35) 3 40 := ⟨by decide +kernel, rfl⟩
set_option maxRecDepth 100000 in
theorem d_Doer_bodyOf_40 : Dc m_Doer_bodyOf 40 (.aload_n 0) 1 41 := ⟨by decide +kernel, rfl⟩
set_option maxRecDepth 100000 in
theorem d_Doer_bodyOf_41 : Dc m_Doer_bodyOf 41 (.getfield 9) 3 44 := ⟨by decide +kernel, rfl⟩
set_option maxRecDepth 100000 in
theorem d_Doer_bodyOf_44 : Dc m_Doer_bodyOf 44 .iaload 1 45 := ⟨by decide +kernel, rfl⟩
set_option maxRecDepth 100000 in
theorem d_Doer_bodyOf_45 : Dc m_Doer_bodyOf 45 .ireturn 1 46 := ⟨by decide +kernel, rfl⟩
set_option maxRecDepth 100000 in
theorem d_Doer_bodyOf_46 : Dc m_Doer_bodyOf 46 (.getstatic 38) 3 49 := ⟨by decide +kernel, rfl⟩
set_option maxRecDepth 100000 in
theorem d_Doer_bodyOf_49 : Dc m_Doer_bodyOf 49 (.aload_n 0) 1 50 := ⟨by decide +kernel, rfl⟩
set_option maxRecDepth 100000 in
theorem d_Doer_bodyOf_50 : Dc m_Doer_bodyOf 50 (.getfield 9) 3 53 := ⟨by decide +kernel, rfl⟩
set_option maxRecDepth 100000 in
theorem d_Doer_bodyOf_53 : Dc m_Doer_bodyOf 53 .iaload 1 54 := ⟨by decide +kernel, rfl⟩
set_option maxRecDepth 100000 in
theorem d_Doer_bodyOf_54 : Dc m_Doer_bodyOf 54 .ireturn 1 55 := ⟨by decide +kernel, rfl⟩
set_option maxRecDepth 100000 in
theorem d_Doer_bodyOf_55 : Dc m_Doer_bodyOf 55 (.getstatic 41) 3 58 := ⟨by decide +kernel, rfl⟩
set_option maxRecDepth 100000 in
theorem d_Doer_bodyOf_58 : Dc m_Doer_bodyOf 58 (.aload_n 0) 1 59 := ⟨by decide +kernel, rfl⟩
set_option maxRecDepth 100000 in
theorem d_Doer_bodyOf_59 : Dc m_Doer_bodyOf 59 (.getfield 9) 3 62 := ⟨by decide +kernel, rfl⟩
set_option maxRecDepth 100000 in
theorem d_Doer_bodyOf_62 : Dc m_Doer_bodyOf 62 .iaload 1 63 := ⟨by decide +kernel, rfl⟩
set_option maxRecDepth 100000 in
theorem d_Doer_bodyOf_63 : Dc m_Doer_bodyOf 63 .ireturn 1 64 := ⟨by decide +kernel, rfl⟩
set_option maxRecDepth 100000 in
theorem d_Doer_begin_0 : Dc m_Doer_begin 0 (.aload_n 0) 1 1 := ⟨by decide +kernel, rfl⟩
set_option maxRecDepth 100000 in
theorem d_Doer_begin_1 : Dc m_Doer_begin 1 (.getfield 21) 3 4 := ⟨by decide +kernel, rfl⟩
set_option maxRecDepth 100000 in
theorem d_Doer_begin_4 : Dj m_Doer_begin 4 (.ifCond .eq) 7 9 := ⟨5, by decide +kernel, rfl, by decide⟩
set_option maxRecDepth 100000 in
theorem d_Doer_begin_7 : Dc m_Doer_begin 7 (.iconst 0) 1 8 := ⟨by decide +kernel, rfl⟩
set_option maxRecDepth 100000 in
theorem d_Doer_begin_8 : Dc m_Doer_begin 8 .ireturn 1 9 := ⟨by decide +kernel, rfl⟩
set_option maxRecDepth 100000 in
theorem d_Doer_begin_9 : Dc m_Doer_begin 9 (.aload_n 0) 1 10 := ⟨by decide +kernel, rfl⟩
set_option maxRecDepth 100000 in
theorem d_Doer_begin_10 : Dc m_Doer_begin 10 (.getfield 29) 3 13 := ⟨by decide +kernel, rfl⟩
set_option maxRecDepth 100000 in
theorem d_Doer_begin_13 : Dc m_Doer_begin 13 (.bipush (30)) 2 15 := ⟨by decide +kernel, rfl⟩
set_option maxRecDepth 100000 in
theorem d_Doer_begin_15 : Dj m_Doer_begin 15 (.if_icmp .ge) 18 38 := ⟨23, by decide +kernel, rfl, by decide⟩
set_option maxRecDepth 100000 in
theorem d_Doer_begin_18 : Dc m_Doer_begin 18 (.aload_n 0) 1 19 := ⟨by decide +kernel, rfl⟩
set_option maxRecDepth 100000 in
theorem d_Doer_begin_19 : Dc m_Doer_begin 19 (.getfield 25) 3 22 := ⟨by decide +kernel, rfl⟩
set_option maxRecDepth 100000 in
theorem d_Doer_begin_22 : Dc m_Doer_begin 22 (.aload_n 0) 1 23 := ⟨by decide +kernel, rfl⟩
set_option maxRecDepth 100000 in
theorem d_Doer_begin_23 : Dc m_Doer_begin 23 (.getfield 29) 3 26 := ⟨by decide +kernel, rfl⟩
set_option maxRecDepth 100000 in
theorem d_Doer_begin_26 : Dc m_Doer_begin 26 (.iload_n 1) 1 27 := ⟨by decide +kernel, rfl⟩
set_option maxRecDepth 100000 in
theorem d_Doer_begin_27 : Dc m_Doer_begin 27 .iastore 1 28 := ⟨by decide +kernel, rfl⟩
set_option maxRecDepth 100000 in
theorem d_Doer_begin_28 : Dc m_Doer_begin 28 (.aload_n 0) 1 29 := ⟨by decide +kernel, rfl⟩
set_option maxRecDepth 100000 in
theorem d_Doer_begin_29 : Dc m_Doer_begin 29 .dup 1 30 := ⟨by decide +kernel, rfl⟩
set_option maxRecDepth 100000 in
theorem d_Doer_begin_30 : Dc m_Doer_begin 30 (.getfield 29) 3 33 := ⟨by decide +kernel, rfl⟩
set_option maxRecDepth 100000 in
theorem d_Doer_begin_33 : Dc m_Doer_begin 33 (.iconst 1) 1 34 := ⟨by decide +kernel, rfl⟩
set_option maxRecDepth 100000 in
theorem d_Doer_begin_34 : Dc m_Doer_begin 34 .iadd 1 35 := ⟨by decide +kernel, rfl⟩
set_option maxRecDepth 100000 in
theorem d_Doer_begin_35 : Dc m_Doer_begin 35 (.putfield 29) 3 38 := ⟨by decide +kernel, rfl⟩
set_option maxRecDepth 100000 in
theorem d_Doer_begin_38 : Dc m_Doer_begin 38 (.iconst 1) 1 39 := ⟨by decide +kernel, rfl⟩
set_option maxRecDepth 100000 in
theorem d_Doer_begin_39 : Dc m_Doer_begin 39 .ireturn 1 40 := ⟨by decide +kernel, rfl⟩
set_option maxRecDepth 100000 in
theorem d_Doer_partEvenly_0 : Dc m_Doer_partEvenly 0 (.aload_n 0) 1 1 := ⟨by decide +kernel, rfl⟩
set_option maxRecDepth 100000 in
theorem d_Doer_partEvenly_1 : Dc m_Doer_partEvenly 1 (.getfield 18) 3 4 := ⟨by decide +kernel, rfl⟩
set_option maxRecDepth 100000 in
theorem d_Doer_partEvenly_4 : Dc m_Doer_partEvenly 4 (.aload_n 0) 1 5 := ⟨by decide +kernel, rfl⟩
set_option maxRecDepth 100000 in
theorem d_Doer_partEvenly_5 : Dc m_Doer_partEvenly 5 (.getfield 15) 3 8 := ⟨by decide +kernel, rfl⟩
set_option maxRecDepth 100000 in
theorem d_Doer_partEvenly_8 : Dc m_Doer_partEvenly 8 .isub 1 9 := ⟨by decide +kernel, rfl⟩
set_option maxRecDepth 100000 in
theorem d_Doer_partEvenly_9 : Dc m_Doer_partEvenly 9 (.istore_n 2) 1 10 := ⟨by decide +kernel, rfl⟩
set_option maxRecDepth 100000 in
theorem d_Doer_partEvenly_10 : Dc m_Doer_partEvenly 10 (.aload_n 0) 1 11 := ⟨by decide +kernel, rfl⟩
set_option maxRecDepth 100000 in
theorem d_Doer_partEvenly_11 : Dc m_Doer_partEvenly 11 (.iload_n 2) 1 12 := ⟨by decide +kernel, rfl⟩
set_option maxRecDepth 100000 in
theorem d_Doer_partEvenly_12 : Dj m_Doer_partEvenly 12 (.ifCond .ne) 15 19 := ⟨7, by decide +kernel, rfl, by decide⟩
set_option maxRecDepth 100000 in
theorem d_Doer_partEvenly_15 : Dc m_Doer_partEvenly 15 (.iconst 1) 1 16 := ⟨by decide +kernel, rfl⟩
set_option maxRecDepth 100000 in
theorem d_Doer_partEvenly_16 : Dj m_Doer_partEvenly 16 .goto 19 20 := ⟨4, by decide +kernel, rfl, by decide⟩
set_option maxRecDepth 100000 in
theorem d_Doer_partEvenly_19 : Dc m_Doer_partEvenly 19 (.iconst 0) 1 20 := ⟨by decide +kernel, rfl⟩
set_option maxRecDepth 100000 in
theorem d_Doer_partEvenly_20 : Dc m_Doer_partEvenly 20 (.putfield 21) 3 23 := ⟨by decide +kernel, rfl⟩
set_option maxRecDepth 100000 in
theorem d_Doer_partEvenly_23 : Dc m_Doer_partEvenly 23 (.iload_n 2) 1 24 := ⟨by decide +kernel, rfl⟩
set_option maxRecDepth 100000 in
theorem d_Doer_partEvenly_24 : Dj m_Doer_partEvenly 24 (.ifCond .ne) 27 31 := ⟨7, by decide +kernel, rfl, by decide⟩
set_option maxRecDepth 100000 in
theorem d_Doer_partEvenly_27 : Dc m_Doer_partEvenly 27 (.iconst 0) 1 28 := ⟨by decide +kernel, rfl⟩
set_option maxRecDepth 100000 in
theorem d_Doer_partEvenly_28 : Dj m_Doer_partEvenly 28 .goto 31 34 := ⟨6, by decide +kernel, rfl, by decide⟩
set_option maxRecDepth 100000 in
theorem d_Doer_partEvenly_31 : Dc m_Doer_partEvenly 31 (.iload_n 1) 1 32 := ⟨by decide +kernel, rfl⟩
set_option maxRecDepth 100000 in
theorem d_Doer_partEvenly_32 : Dc m_Doer_partEvenly 32 (.iload_n 2) 1 33 := ⟨by decide +kernel, rfl⟩
set_option maxRecDepth 100000 in
theorem d_Doer_partEvenly_33 : Dc m_Doer_partEvenly 33 .idiv 1 34 := ⟨by decide +kernel, rfl⟩
set_option maxRecDepth 100000 in
theorem d_Doer_partEvenly_34 : Dc m_Doer_partEvenly 34 .ireturn 1 35 := ⟨by decide +kernel, rfl⟩
set_option maxRecDepth 100000 in
theorem d_Learner_init_0 : Dc m_Learner_init 0 (.aload_n 0) 1 1 := ⟨by decide +kernel, rfl⟩
set_option maxRecDepth 100000 in
theorem d_Learner_init_1 : Dc m_Learner_init 1 (.invokespecial 3) 3 4 := ⟨by decide +kernel, rfl⟩
set_option maxRecDepth 100000 in
theorem d_Learner_init_4 : Dc m_Learner_init 4 (.aload_n 0) 1 5 := ⟨by decide +kernel, rfl⟩
set_option maxRecDepth 100000 in
theorem d_Learner_init_5 : Dc m_Learner_init 5 (.iconst 0) 1 6 := ⟨by decide +kernel, rfl⟩
set_option maxRecDepth 100000 in
theorem d_Learner_init_6 : Dc m_Learner_init 6 (.putfield 9) 3 9 := ⟨by decide +kernel, rfl⟩
set_option maxRecDepth 100000 in
theorem d_Learner_init_9 : Dc m_Learner_init 9 (.aload_n 0) 1 10 := ⟨by decide +kernel, rfl⟩
set_option maxRecDepth 100000 in
theorem d_Learner_init_10 : Dc m_Learner_init 10 (.iconst 0) 1 11 := ⟨by decide +kernel, rfl⟩
set_option maxRecDepth 100000 in
theorem d_Learner_init_11 : Dc m_Learner_init 11 (.putfield 15) 3 14 := ⟨by decide +kernel, rfl⟩
set_option maxRecDepth 100000 in
theorem d_Learner_init_14 : Dc m_Learner_init 14 (.aload_n 0) 1 15 := ⟨by decide +kernel, rfl⟩
set_option maxRecDepth 100000 in
theorem d_Learner_init_15 : Dc m_Learner_init 15 (.bipush (36)) 2 17 := ⟨by decide +kernel, rfl⟩
set_option maxRecDepth 100000 in
theorem d_Learner_init_17 : Dc m_Learner_init 17 (.newarray .int) 2 19 := ⟨by decide +kernel, rfl⟩
set_option maxRecDepth 100000 in
theorem d_Learner_init_19 : Dc m_Learner_init 19 (.putfield 18) 3 22 := ⟨by decide +kernel, rfl⟩
set_option maxRecDepth 100000 in
theorem d_Learner_init_22 : Dc m_Learner_init 22 (.aload_n 0) 1 23 := ⟨by decide +kernel, rfl⟩
set_option maxRecDepth 100000 in
theorem d_Learner_init_23 : Dc m_Learner_init 23 (.bipush (36)) 2 25 := ⟨by decide +kernel, rfl⟩
set_option maxRecDepth 100000 in
theorem d_Learner_init_25 : Dc m_Learner_init 25 (.newarray .int) 2 27 := ⟨by decide +kernel, rfl⟩
set_option maxRecDepth 100000 in
theorem d_Learner_init_27 : Dc m_Learner_init 27 (.putfield 22) 3 30 := ⟨by decide +kernel, rfl⟩
set_option maxRecDepth 100000 in
theorem d_Learner_init_30 : Dc m_Learner_init 30 (.aload_n 0) 1 31 := ⟨by decide +kernel, rfl⟩
set_option maxRecDepth 100000 in
theorem d_Learner_init_31 : Dc m_Learner_init 31 (.bipush (36)) 2 33 := ⟨by decide +kernel, rfl⟩
set_option maxRecDepth 100000 in
theorem d_Learner_init_33 : Dc m_Learner_init 33 (.newarray .int) 2 35 := ⟨by decide +kernel, rfl⟩
set_option maxRecDepth 100000 in
theorem d_Learner_init_35 : Dc m_Learner_init 35 (.putfield 25) 3 38 := ⟨by decide +kernel, rfl⟩
set_option maxRecDepth 100000 in
theorem d_Learner_init_38 : Dc m_Learner_init 38 .return_ 1 39 := ⟨by decide +kernel, rfl⟩
set_option maxRecDepth 100000 in
theorem d_Learner_start_0 : Dc m_Learner_start 0 (.aload_n 0) 1 1 := ⟨by decide +kernel, rfl⟩
set_option maxRecDepth 100000 in
theorem d_Learner_start_1 : Dc m_Learner_start 1 (.iload_n 1) 1 2 := ⟨by decide +kernel, rfl⟩
set_option maxRecDepth 100000 in
theorem d_Learner_start_2 : Dc m_Learner_start 2 (.putfield 9) 3 5 := ⟨by decide +kernel, rfl⟩
set_option maxRecDepth 100000 in
theorem d_Learner_start_5 : Dc m_Learner_start 5 (.aload_n 0) 1 6 := ⟨by decide +kernel, rfl⟩
set_option maxRecDepth 100000 in
theorem d_Learner_start_6 : Dc m_Learner_start 6 (.iload_n 2) 1 7 := ⟨by decide +kernel, rfl⟩
set_option maxRecDepth 100000 in
theorem d_Learner_start_7 : Dc m_Learner_start 7 (.putfield 15) 3 10 := ⟨by decide +kernel, rfl⟩
set_option maxRecDepth 100000 in
theorem d_Learner_start_10 : Dc m_Learner_start 10 (.iconst 0) 1 11 := ⟨by decide +kernel, rfl⟩
set_option maxRecDepth 100000 in
theorem d_Learner_start_11 : Dc m_Learner_start 11 (.istore_n 3) 1 12 := ⟨by decide +kernel, rfl⟩
set_option maxRecDepth 100000 in
theorem d_Learner_start_12 : Dc m_Learner_start 12 (.iload_n 3) 1 13 := ⟨by decide +kernel, rfl⟩
set_option maxRecDepth 100000 in
theorem d_Learner_start_13 : Dc m_Learner_start 13 (.bipush (36)) 2 15 := ⟨by decide +kernel, rfl⟩
set_option maxRecDepth 100000 in
theorem d_Learner_start_15 : Dj m_Learner_start 15 (.if_icmp .ge) 18 49 := ⟨34, by decide +kernel, rfl, by decide⟩
set_option maxRecDepth 100000 in
theorem d_Learner_start_18 : Dc m_Learner_start 18 (.aload_n 0) 1 19 := ⟨by decide +kernel, rfl⟩
set_option maxRecDepth 100000 in
theorem d_Learner_start_19 : Dc m_Learner_start 19 (.getfield 18) 3 22 := ⟨by decide +kernel, rfl⟩
set_option maxRecDepth 100000 in
theorem d_Learner_start_22 : Dc m_Learner_start 22 (.iload_n 3) 1 23 := ⟨by decide +kernel, rfl⟩
set_option maxRecDepth 100000 in
theorem d_Learner_start_23 : Dc m_Learner_start 23 (.iload_n 3) 1 24 := ⟨by decide +kernel, rfl⟩
set_option maxRecDepth 100000 in
theorem d_Learner_start_24 : Dc m_Learner_start 24 (.invokestatic 28) 3 27 := ⟨by decide +kernel, rfl⟩
set_option maxRecDepth 100000 in
theorem d_Learner_start_27 : Dc m_Learner_start 27 .iastore 1 28 := ⟨by decide +kernel, rfl⟩
set_option maxRecDepth 100000 in
theorem d_Learner_start_28 : Dc m_Learner_start 28 (.aload_n 0) 1 29 := ⟨by decide +kernel, rfl⟩
set_option maxRecDepth 100000 in
theorem d_Learner_start_29 : Dc m_Learner_start 29 (.getfield 22) 3 32 := ⟨by decide +kernel, rfl⟩
set_option maxRecDepth 100000 in
theorem d_Learner_start_32 : Dc m_Learner_start 32 (.iload_n 3) 1 33 := ⟨by decide +kernel, rfl⟩
set_option maxRecDepth 100000 in
theorem d_Learner_start_33 : Dc m_Learner_start 33 (.iconst 0) 1 34 := ⟨by decide +kernel, rfl⟩
set_option maxRecDepth 100000 in
theorem d_Learner_start_34 : Dc m_Learner_start 34 .iastore 1 35 := ⟨by decide +kernel, rfl⟩
set_option maxRecDepth 100000 in
theorem d_Learner_start_35 : Dc m_Learner_start 35 (.aload_n 0) 1 36 := ⟨by decide +kernel, rfl⟩
set_option maxRecDepth 100000 in
theorem d_Learner_start_36 : Dc m_Learner_start 36 (.getfield 25) 3 39 := ⟨by decide +kernel, rfl⟩
set_option maxRecDepth 100000 in
theorem d_Learner_start_39 : Dc m_Learner_start 39 (.iload_n 3) 1 40 := ⟨by decide +kernel, rfl⟩
set_option maxRecDepth 100000 in
theorem d_Learner_start_40 : Dc m_Learner_start 40 (.bipush (-9)) 2 42 := ⟨by decide +kernel, rfl⟩
set_option maxRecDepth 100000 in
theorem d_Learner_start_42 : Dc m_Learner_start 42 .iastore 1 43 := ⟨by decide +kernel, rfl⟩
set_option maxRecDepth 100000 in
theorem d_Learner_start_43 : Dc m_Learner_start 43 (.iinc 3 (1)) 3 46 := ⟨by decide +kernel, rfl⟩
set_option maxRecDepth 100000 in
theorem d_Learner_start_46 : Dj m_Learner_start 46 .goto 49 12 := ⟨-34, by decide +kernel, rfl, by decide⟩
set_option maxRecDepth 100000 in
theorem d_Learner_start_49 : Dc m_Learner_start 49 .return_ 1 50 := ⟨by decide +kernel, rfl⟩
set_option maxRecDepth 100000 in
theorem d_Learner_copyFrom_0 : Dc m_Learner_copyFrom 0 (.aload_n 0) 1 1 := ⟨by decide +kernel, rfl⟩
set_option maxRecDepth 100000 in
theorem d_Learner_copyFrom_1 : Dc m_Learner_copyFrom 1 (.aload_n 1) 1 2 := ⟨by decide +kernel, rfl⟩
set_option maxRecDepth 100000 in
theorem d_Learner_copyFrom_2 : Dc m_Learner_copyFrom 2 (.getfield 9) 3 5 := ⟨by decide +kernel, rfl⟩
set_option maxRecDepth 100000 in
theorem d_Learner_copyFrom_5 : Dc m_Learner_copyFrom 5 (.putfield 9) 3 8 := ⟨by decide +kernel, rfl⟩
set_option maxRecDepth 100000 in
theorem d_Learner_copyFrom_8 : Dc m_Learner_copyFrom 8 (.aload_n 0) 1 9 := ⟨by decide +kernel, rfl⟩
set_option maxRecDepth 100000 in
theorem d_Learner_copyFrom_9 : Dc m_Learner_copyFrom 9 (.aload_n 1) 1 10 := ⟨by decide +kernel, rfl⟩
set_option maxRecDepth 100000 in
theorem d_Learner_copyFrom_10 : Dc m_Learner_copyFrom 10 (.getfield 15) 3 13 := ⟨by decide +kernel, rfl⟩
set_option maxRecDepth 100000 in
theorem d_Learner_copyFrom_13 : Dc m_Learner_copyFrom 13 (.putfield 15) 3 16 := ⟨by decide +kernel, rfl⟩
set_option maxRecDepth 100000 in
theorem d_Learner_copyFrom_16 : Dc m_Learner_copyFrom 16 (.aload_n 1) 1 17 := ⟨by decide +kernel, rfl⟩
set_option maxRecDepth 100000 in
theorem d_Learner_copyFrom_17 : Dc m_Learner_copyFrom 17 (.getfield 18) 3 20 := ⟨by decide +kernel, rfl⟩
set_option maxRecDepth 100000 in
theorem d_Learner_copyFrom_20 : Dc m_Learner_copyFrom 20 (.iconst 0) 1 21 := ⟨by decide +kernel, rfl⟩
set_option maxRecDepth 100000 in
theorem d_Learner_copyFrom_21 : Dc m_Learner_copyFrom 21 (.aload_n 0) 1 22 := ⟨by decide +kernel, rfl⟩
set_option maxRecDepth 100000 in
theorem d_Learner_copyFrom_22 : Dc m_Learner_copyFrom 22 (.getfield 18) 3 25 := ⟨by decide +kernel, rfl⟩
set_option maxRecDepth 100000 in
theorem d_Learner_copyFrom_25 : Dc m_Learner_copyFrom 25 (.iconst 0) 1 26 := ⟨by decide +kernel, rfl⟩
set_option maxRecDepth 100000 in
theorem d_Learner_copyFrom_26 : Dc m_Learner_copyFrom 26 (.bipush (36)) 2 28 := ⟨by decide +kernel, rfl⟩
set_option maxRecDepth 100000 in
theorem d_Learner_copyFrom_28 : Dc m_Learner_copyFrom 28 (.invokestatic 32) 3 31 := ⟨by decide +kernel, rfl⟩
set_option maxRecDepth 100000 in
theorem d_Learner_copyFrom_31 : Dc m_Learner_copyFrom 31 (.aload_n 1) 1 32 := ⟨by decide +kernel, rfl⟩
set_option maxRecDepth 100000 in
theorem d_Learner_copyFrom_32 : Dc m_Learner_copyFrom 32 (.getfield 22) 3 35 := ⟨by decide +kernel, rfl⟩
set_option maxRecDepth 100000 in
theorem d_Learner_copyFrom_35 : Dc m_Learner_copyFrom 35 (.iconst 0) 1 36 := ⟨by decide +kernel, rfl⟩
set_option maxRecDepth 100000 in
theorem d_Learner_copyFrom_36 : Dc m_Learner_copyFrom 36 (.aload_n 0) 1 37 := ⟨by decide +kernel, rfl⟩
set_option maxRecDepth 100000 in
theorem d_Learner_copyFrom_37 : Dc m_Learner_copyFrom 37 (.getfield 22) 3 40 := ⟨by decide +kernel, rfl⟩
set_option maxRecDepth 100000 in
theorem d_Learner_copyFrom_40 : Dc m_Learner_copyFrom 40 (.iconst 0) 1 41 := ⟨by decide +kernel, rfl⟩
set_option maxRecDepth 100000 in
theorem d_Learner_copyFrom_41 : Dc m_Learner_copyFrom 41 (.bipush (36)) 2 43 := ⟨by decide +kernel, rfl⟩
set_option maxRecDepth 100000 in
theorem d_Learner_copyFrom_43 : Dc m_Learner_copyFrom 43 (.invokestatic 32) 3 46 := ⟨by decide +kernel, rfl⟩
set_option maxRecDepth 100000 in
theorem d_Learner_copyFrom_46 : Dc m_Learner_copyFrom 46 (.aload_n 1) 1 47 := ⟨by decide +kernel, rfl⟩
set_option maxRecDepth 100000 in
theorem d_Learner_copyFrom_47 : Dc m_Learner_copyFrom 47 (.getfield 25) 3 50 := ⟨by decide +kernel, rfl⟩
set_option maxRecDepth 100000 in
theorem d_Learner_copyFrom_50 : Dc m_Learner_copyFrom 50 (.iconst 0) 1 51 := ⟨by decide +kernel, rfl⟩
set_option maxRecDepth 100000 in
theorem d_Learner_copyFrom_51 : Dc m_Learner_copyFrom 51 (.aload_n 0) 1 52 := ⟨by decide +kernel, rfl⟩
set_option maxRecDepth 100000 in
theorem d_Learner_copyFrom_52 : Dc m_Learner_copyFrom 52 (.getfield 25) 3 55 := ⟨by decide +kernel, rfl⟩
set_option maxRecDepth 100000 in
theorem d_Learner_copyFrom_55 : Dc m_Learner_copyFrom 55 (.iconst 0) 1 56 := ⟨by decide +kernel, rfl⟩
set_option maxRecDepth 100000 in
theorem d_Learner_copyFrom_56 : Dc m_Learner_copyFrom 56 (.bipush (36)) 2 58 := ⟨by decide +kernel, rfl⟩
set_option maxRecDepth 100000 in
theorem d_Learner_copyFrom_58 : Dc m_Learner_copyFrom 58 (.invokestatic 32) 3 61 := ⟨by decide +kernel, rfl⟩
set_option maxRecDepth 100000 in
theorem d_Learner_copyFrom_61 : Dc m_Learner_copyFrom 61 .return_ 1 62 := ⟨by decide +kernel, rfl⟩
set_option maxRecDepth 100000 in
theorem d_Learner_firmSum_0 : Dc m_Learner_firmSum 0 (.iconst 0) 1 1 := ⟨by decide +kernel, rfl⟩
set_option maxRecDepth 100000 in
theorem d_Learner_firmSum_1 : Dc m_Learner_firmSum 1 (.istore_n 1) 1 2 := ⟨by decide +kernel, rfl⟩
set_option maxRecDepth 100000 in
theorem d_Learner_firmSum_2 : Dc m_Learner_firmSum 2 (.iconst 0) 1 3 := ⟨by decide +kernel, rfl⟩
set_option maxRecDepth 100000 in
theorem d_Learner_firmSum_3 : Dc m_Learner_firmSum 3 (.istore_n 2) 1 4 := ⟨by decide +kernel, rfl⟩
set_option maxRecDepth 100000 in
theorem d_Learner_firmSum_4 : Dc m_Learner_firmSum 4 (.iload_n 2) 1 5 := ⟨by decide +kernel, rfl⟩
set_option maxRecDepth 100000 in
theorem d_Learner_firmSum_5 : Dc m_Learner_firmSum 5 (.bipush (36)) 2 7 := ⟨by decide +kernel, rfl⟩
set_option maxRecDepth 100000 in
theorem d_Learner_firmSum_7 : Dj m_Learner_firmSum 7 (.if_icmp .ge) 10 25 := ⟨18, by decide +kernel, rfl, by decide⟩
set_option maxRecDepth 100000 in
theorem d_Learner_firmSum_10 : Dc m_Learner_firmSum 10 (.iload_n 1) 1 11 := ⟨by decide +kernel, rfl⟩
set_option maxRecDepth 100000 in
theorem d_Learner_firmSum_11 : Dc m_Learner_firmSum 11 (.aload_n 0) 1 12 := ⟨by decide +kernel, rfl⟩
set_option maxRecDepth 100000 in
theorem d_Learner_firmSum_12 : Dc m_Learner_firmSum 12 (.getfield 18) 3 15 := ⟨by decide +kernel, rfl⟩
set_option maxRecDepth 100000 in
theorem d_Learner_firmSum_15 : Dc m_Learner_firmSum 15 (.iload_n 2) 1 16 := ⟨by decide +kernel, rfl⟩
set_option maxRecDepth 100000 in
theorem d_Learner_firmSum_16 : Dc m_Learner_firmSum 16 .iaload 1 17 := ⟨by decide +kernel, rfl⟩
set_option maxRecDepth 100000 in
theorem d_Learner_firmSum_17 : Dc m_Learner_firmSum 17 .iadd 1 18 := ⟨by decide +kernel, rfl⟩
set_option maxRecDepth 100000 in
theorem d_Learner_firmSum_18 : Dc m_Learner_firmSum 18 (.istore_n 1) 1 19 := ⟨by decide +kernel, rfl⟩
set_option maxRecDepth 100000 in
theorem d_Learner_firmSum_19 : Dc m_Learner_firmSum 19 (.iinc 2 (1)) 3 22 := ⟨by decide +kernel, rfl⟩
set_option maxRecDepth 100000 in
theorem d_Learner_firmSum_22 : Dj m_Learner_firmSum 22 .goto 25 4 := ⟨-18, by decide +kernel, rfl, by decide⟩
set_option maxRecDepth 100000 in
theorem d_Learner_firmSum_25 : Dc m_Learner_firmSum 25 (.iload_n 1) 1 26 := ⟨by decide +kernel, rfl⟩
set_option maxRecDepth 100000 in
theorem d_Learner_firmSum_26 : Dc m_Learner_firmSum 26 .ireturn 1 27 := ⟨by decide +kernel, rfl⟩
set_option maxRecDepth 100000 in
theorem d_Learner_feeling_0 : Dc m_Learner_feeling 0 (.aload_n 0) 1 1 := ⟨by decide +kernel, rfl⟩
set_option maxRecDepth 100000 in
theorem d_Learner_feeling_1 : Dc m_Learner_feeling 1 (.getfield 9) 3 4 := ⟨by decide +kernel, rfl⟩
set_option maxRecDepth 100000 in
theorem d_Learner_feeling_4 : Dc m_Learner_feeling 4 (.iconst 3) 1 5 := ⟨by decide +kernel, rfl⟩
set_option maxRecDepth 100000 in
theorem d_Learner_feeling_5 : Dj m_Learner_feeling 5 (.if_icmp .ne) 8 29 := ⟨24, by decide +kernel, rfl, by decide⟩
set_option maxRecDepth 100000 in
theorem d_Learner_feeling_8 : Dc m_Learner_feeling 8 (.iload_n 2) 1 9 := ⟨by decide +kernel, rfl⟩
set_option maxRecDepth 100000 in
theorem d_Learner_feeling_9 : Dc m_Learner_feeling 9 (.iconst 3) 1 10 := ⟨by decide +kernel, rfl⟩
set_option maxRecDepth 100000 in
theorem d_Learner_feeling_10 : Dj m_Learner_feeling 10 (.if_icmp .ge) 13 29 := ⟨19, by decide +kernel, rfl, by decide⟩
set_option maxRecDepth 100000 in
theorem d_Learner_feeling_13 : Dc m_Learner_feeling 13 (.iconst 0) 1 14 := ⟨by decide +kernel, rfl⟩
set_option maxRecDepth 100000 in
theorem d_Learner_feeling_14 : Dc m_Learner_feeling 14 (.aload_n 0) 1 15 := ⟨by decide +kernel, rfl⟩
set_option maxRecDepth 100000 in
theorem d_Learner_feeling_15 : Dc m_Learner_feeling 15 (.getfield 18) 3 18 := ⟨by decide +kernel, rfl⟩
set_option maxRecDepth 100000 in
theorem d_Learner_feeling_18 : Dc m_Learner_feeling 18 (.iload_n 1) 1 19 := ⟨by decide +kernel, rfl⟩
set_option maxRecDepth 100000 in
theorem d_Learner_feeling_19 : Dc m_Learner_feeling 19 .iaload 1 20 := ⟨by decide +kernel, rfl⟩
set_option maxRecDepth 100000 in
theorem d_Learner_feeling_20 : Dc m_Learner_feeling 20 (.aload_n 0) 1 21 := ⟨by decide +kernel, rfl⟩
set_option maxRecDepth 100000 in
theorem d_Learner_feeling_21 : Dc m_Learner_feeling 21 (.getfield 15) 3 24 := ⟨by decide +kernel, rfl⟩
set_option maxRecDepth 100000 in
theorem d_Learner_feeling_24 : Dc m_Learner_feeling 24 .isub 1 25 := ⟨by decide +kernel, rfl⟩
set_option maxRecDepth 100000 in
theorem d_Learner_feeling_25 : Dc m_Learner_feeling 25 (.invokestatic 38) 3 28 := ⟨by decide +kernel, rfl⟩
set_option maxRecDepth 100000 in
theorem d_Learner_feeling_28 : Dc m_Learner_feeling 28 .ireturn 1 29 := ⟨by decide +kernel, rfl⟩
set_option maxRecDepth 100000 in
theorem d_Learner_feeling_29 : Dc m_Learner_feeling 29 (.aload_n 0) 1 30 := ⟨by decide +kernel, rfl⟩
set_option maxRecDepth 100000 in
theorem d_Learner_feeling_30 : Dc m_Learner_feeling 30 (.getfield 9) 3 33 := ⟨by decide +kernel, rfl⟩
set_option maxRecDepth 100000 in
theorem d_Learner_feeling_33 : Dc m_Learner_feeling 33 (.iconst 4) 1 34 := ⟨by decide +kernel, rfl⟩
set_option maxRecDepth 100000 in
theorem d_Learner_feeling_34 : Dj m_Learner_feeling 34 (.if_icmp .ne) 37 54 := ⟨20, by decide +kernel, rfl, by decide⟩
set_option maxRecDepth 100000 in
theorem d_Learner_feeling_37 : Dc m_Learner_feeling 37 (.bipush (100)) 2 39 := ⟨by decide +kernel, rfl⟩
set_option maxRecDepth 100000 in
theorem d_Learner_feeling_39 : Dc m_Learner_feeling 39 (.aload_n 0) 1 40 := ⟨by decide +kernel, rfl⟩
set_option maxRecDepth 100000 in
theorem d_Learner_feeling_40 : Dc m_Learner_feeling 40 (.getfield 18) 3 43 := ⟨by decide +kernel, rfl⟩
set_option maxRecDepth 100000 in
theorem d_Learner_feeling_43 : Dc m_Learner_feeling 43 (.iload_n 1) 1 44 := ⟨by decide +kernel, rfl⟩
set_option maxRecDepth 100000 in
theorem d_Learner_feeling_44 : Dc m_Learner_feeling 44 .iaload 1 45 := ⟨by decide +kernel, rfl⟩
set_option maxRecDepth 100000 in
theorem d_Learner_feeling_45 : Dc m_Learner_feeling 45 (.aload_n 0) 1 46 := ⟨by decide +kernel, rfl⟩
set_option maxRecDepth 100000 in
theorem d_Learner_feeling_46 : Dc m_Learner_feeling 46 (.getfield 15) 3 49 := ⟨by decide +kernel, rfl⟩
set_option maxRecDepth 100000 in
theorem d_Learner_feeling_49 : Dc m_Learner_feeling 49 .iadd 1 50 := ⟨by decide +kernel, rfl⟩
set_option maxRecDepth 100000 in
theorem d_Learner_feeling_50 : Dc m_Learner_feeling 50 (.invokestatic 44) 3 53 := ⟨by decide +kernel, rfl⟩
set_option maxRecDepth 100000 in
theorem d_Learner_feeling_53 : Dc m_Learner_feeling 53 .ireturn 1 54 := ⟨by decide +kernel, rfl⟩
set_option maxRecDepth 100000 in
theorem d_Learner_feeling_54 : Dc m_Learner_feeling 54 (.aload_n 0) 1 55 := ⟨by decide +kernel, rfl⟩
set_option maxRecDepth 100000 in
theorem d_Learner_feeling_55 : Dc m_Learner_feeling 55 (.getfield 18) 3 58 := ⟨by decide +kernel, rfl⟩
set_option maxRecDepth 100000 in
theorem d_Learner_feeling_58 : Dc m_Learner_feeling 58 (.iload_n 1) 1 59 := ⟨by decide +kernel, rfl⟩
set_option maxRecDepth 100000 in
theorem d_Learner_feeling_59 : Dc m_Learner_feeling 59 .iaload 1 60 := ⟨by decide +kernel, rfl⟩
set_option maxRecDepth 100000 in
theorem d_Learner_feeling_60 : Dc m_Learner_feeling 60 .ireturn 1 61 := ⟨by decide +kernel, rfl⟩
set_option maxRecDepth 100000 in
theorem d_Learner_takes_0 : Dc m_Learner_takes 0 (.aload_n 0) 1 1 := ⟨by decide +kernel, rfl⟩
set_option maxRecDepth 100000 in
theorem d_Learner_takes_1 : Dc m_Learner_takes 1 (.iload_n 1) 1 2 := ⟨by decide +kernel, rfl⟩
set_option maxRecDepth 100000 in
theorem d_Learner_takes_2 : Dc m_Learner_takes 2 (.iload_n 2) 1 3 := ⟨by decide +kernel, rfl⟩
set_option maxRecDepth 100000 in
theorem d_Learner_takes_3 : Dc m_Learner_takes 3 (.invokevirtual 47) 3 6 := ⟨by decide +kernel, rfl⟩
set_option maxRecDepth 100000 in
theorem d_Learner_takes_6 : Dc m_Learner_takes 6 (.invokestatic 50) 3 9 := ⟨by decide +kernel, rfl⟩
set_option maxRecDepth 100000 in
theorem d_Learner_takes_9 : Dc m_Learner_takes 9 .ireturn 1 10 := ⟨by decide +kernel, rfl⟩
set_option maxRecDepth 100000 in
theorem d_Learner_isAtOnce_0 : Dc m_Learner_isAtOnce 0 (.aload_n 0) 1 1 := ⟨by decide +kernel, rfl⟩
set_option maxRecDepth 100000 in
theorem d_Learner_isAtOnce_1 : Dc m_Learner_isAtOnce 1 (.iload_n 1) 1 2 := ⟨by decide +kernel, rfl⟩
set_option maxRecDepth 100000 in
theorem d_Learner_isAtOnce_2 : Dc m_Learner_isAtOnce 2 (.iload_n 2) 1 3 := ⟨by decide +kernel, rfl⟩
set_option maxRecDepth 100000 in
theorem d_Learner_isAtOnce_3 : Dc m_Learner_isAtOnce 3 (.invokevirtual 47) 3 6 := ⟨by decide +kernel, rfl⟩
set_option maxRecDepth 100000 in
theorem d_Learner_isAtOnce_6 : Dc m_Learner_isAtOnce 6 (.istore 4) 2 8 := ⟨by decide +kernel, rfl⟩
set_option maxRecDepth 100000 in
theorem d_Learner_isAtOnce_8 : Dc m_Learner_isAtOnce 8 (.iload 4) 2 10 := ⟨by decide +kernel, rfl⟩
set_option maxRecDepth 100000 in
theorem d_Learner_isAtOnce_10 : Dc m_Learner_isAtOnce 10 (.iload_n 3) 1 11 := ⟨by decide +kernel, rfl⟩
set_option maxRecDepth 100000 in
theorem d_Learner_isAtOnce_11 : Dj m_Learner_isAtOnce 11 (.if_icmp .lt) 14 27 := ⟨16, by decide +kernel, rfl, by decide⟩
set_option maxRecDepth 100000 in
theorem d_Learner_isAtOnce_14 : Dc m_Learner_isAtOnce 14 (.iload 4) 2 16 := ⟨by decide +kernel, rfl⟩
set_option maxRecDepth 100000 in
theorem d_Learner_isAtOnce_16 : Dc m_Learner_isAtOnce 16 (.invokestatic 50) 3 19 := ⟨by decide +kernel, rfl⟩
set_option maxRecDepth 100000 in
theorem d_Learner_isAtOnce_19 : Dc m_Learner_isAtOnce 19 (.iload_n 2) 1 20 := ⟨by decide +kernel, rfl⟩
set_option maxRecDepth 100000 in
theorem d_Learner_isAtOnce_20 : Dj m_Learner_isAtOnce 20 (.if_icmp .gt) 23 27 := ⟨7, by decide +kernel, rfl, by decide⟩
set_option maxRecDepth 100000 in
theorem d_Learner_isAtOnce_23 : Dc m_Learner_isAtOnce 23 (.iconst 1) 1 24 := ⟨by decide +kernel, rfl⟩
set_option maxRecDepth 100000 in
theorem d_Learner_isAtOnce_24 : Dj m_Learner_isAtOnce 24 .goto 27 28 := ⟨4, by decide +kernel, rfl, by decide⟩
set_option maxRecDepth 100000 in
theorem d_Learner_isAtOnce_27 : Dc m_Learner_isAtOnce 27 (.iconst 0) 1 28 := ⟨by decide +kernel, rfl⟩
set_option maxRecDepth 100000 in
theorem d_Learner_isAtOnce_28 : Dc m_Learner_isAtOnce 28 .ireturn 1 29 := ⟨by decide +kernel, rfl⟩
set_option maxRecDepth 100000 in
theorem d_Learner_takesBy_0 : Dc m_Learner_takesBy 0 (.iconst 1) 1 1 := ⟨by decide +kernel, rfl⟩
set_option maxRecDepth 100000 in
theorem d_Learner_takesBy_1 : Dc m_Learner_takesBy 1 (.bipush (100)) 2 3 := ⟨by decide +kernel, rfl⟩
set_option maxRecDepth 100000 in
theorem d_Learner_takesBy_3 : Dc m_Learner_takesBy 3 (.iload_n 0) 1 4 := ⟨by decide +kernel, rfl⟩
set_option maxRecDepth 100000 in
theorem d_Learner_takesBy_4 : Dc m_Learner_takesBy 4 .isub 1 5 := ⟨by decide +kernel, rfl⟩
set_option maxRecDepth 100000 in
theorem d_Learner_takesBy_5 : Dc m_Learner_takesBy 5 (.bipush (15)) 2 7 := ⟨by decide +kernel, rfl⟩
set_option maxRecDepth 100000 in
theorem d_Learner_takesBy_7 : Dc m_Learner_takesBy 7 .idiv 1 8 := ⟨by decide +kernel, rfl⟩
set_option maxRecDepth 100000 in
theorem d_Learner_takesBy_8 : Dc m_Learner_takesBy 8 .iadd 1 9 := ⟨by decide +kernel, rfl⟩
set_option maxRecDepth 100000 in
theorem d_Learner_takesBy_9 : Dc m_Learner_takesBy 9 .ireturn 1 10 := ⟨by decide +kernel, rfl⟩
set_option maxRecDepth 100000 in
theorem d_Learner_step_0 : Dc m_Learner_step 0 (.aload_n 0) 1 1 := ⟨by decide +kernel, rfl⟩
set_option maxRecDepth 100000 in
theorem d_Learner_step_1 : Dc m_Learner_step 1 (.getfield 9) 3 4 := ⟨by decide +kernel, rfl⟩
set_option maxRecDepth 100000 in
theorem d_Learner_step_4 : Ts m_Learner_step 4 [(1, 39), (2, 36), (3, 36), (4, 39)] 41 := ⟨37, 1, 4, [35, 32, 32, 35], 32, by decide +kernel, by decide, by decide +kernel⟩
set_option maxRecDepth 100000 in
theorem d_Learner_step_36 : Dc m_Learner_step 36 (.bipush (-9)) 2 38 := ⟨by decide +kernel, rfl⟩
set_option maxRecDepth 100000 in
theorem d_Learner_step_38 : Dc m_Learner_step 38 .ireturn 1 39 := ⟨by decide +kernel, rfl⟩
set_option maxRecDepth 100000 in
theorem d_Learner_step_39 : Dc m_Learner_step 39 (.iconst 1) 1 40 := ⟨by decide +kernel, rfl⟩
set_option maxRecDepth 100000 in
theorem d_Learner_step_40 : Dc m_Learner_step 40 .ireturn 1 41 := ⟨by decide +kernel, rfl⟩
set_option maxRecDepth 100000 in
theorem d_Learner_step_41 : Dc m_Learner_step 41 (.iconst 2) 1 42 := ⟨by decide +kernel, rfl⟩
set_option maxRecDepth 100000 in
theorem d_Learner_step_42 : Dc m_Learner_step 42 .ireturn 1 43 := ⟨by decide +kernel, rfl⟩
set_option maxRecDepth 100000 in
theorem d_Learner_hear_0 : Dc m_Learner_hear 0 (.aload_n 0) 1 1 := ⟨by decide +kernel, rfl⟩
set_option maxRecDepth 100000 in
theorem d_Learner_hear_1 : Dc m_Learner_hear 1 (.getfield 18) 3 4 := ⟨by decide +kernel, rfl⟩
set_option maxRecDepth 100000 in
theorem d_Learner_hear_4 : Dc m_Learner_hear 4 (.iload_n 1) 1 5 := ⟨by decide +kernel, rfl⟩
set_option maxRecDepth 100000 in
theorem d_Learner_hear_5 : Dc m_Learner_hear 5 (.aload_n 0) 1 6 := ⟨by decide +kernel, rfl⟩
set_option maxRecDepth 100000 in
theorem d_Learner_hear_6 : Dc m_Learner_hear 6 (.getfield 18) 3 9 := ⟨by decide +kernel, rfl⟩
set_option maxRecDepth 100000 in
theorem d_Learner_hear_9 : Dc m_Learner_hear 9 (.iload_n 1) 1 10 := ⟨by decide +kernel, rfl⟩
set_option maxRecDepth 100000 in
theorem d_Learner_hear_10 : Dc m_Learner_hear 10 .iaload 1 11 := ⟨by decide +kernel, rfl⟩
set_option maxRecDepth 100000 in
theorem d_Learner_hear_11 : Dc m_Learner_hear 11 (.invokestatic 53) 3 14 := ⟨by decide +kernel, rfl⟩
set_option maxRecDepth 100000 in
theorem d_Learner_hear_14 : Dc m_Learner_hear 14 .iastore 1 15 := ⟨by decide +kernel, rfl⟩
set_option maxRecDepth 100000 in
theorem d_Learner_hear_15 : Dc m_Learner_hear 15 .return_ 1 16 := ⟨by decide +kernel, rfl⟩
set_option maxRecDepth 100000 in
theorem d_Learner_keepAnswer_0 : Dc m_Learner_keepAnswer 0 (.aload_n 1) 1 1 := ⟨by decide +kernel, rfl⟩
set_option maxRecDepth 100000 in
theorem d_Learner_keepAnswer_1 : Dc m_Learner_keepAnswer 1 (.invokevirtual 56) 3 4 := ⟨by decide +kernel, rfl⟩
set_option maxRecDepth 100000 in
theorem d_Learner_keepAnswer_4 : Dj m_Learner_keepAnswer 4 (.ifCond .eq) 7 70 := ⟨66, by decide +kernel, rfl, by decide⟩
set_option maxRecDepth 100000 in
theorem d_Learner_keepAnswer_7 : Dc m_Learner_keepAnswer 7 (.aload_n 0) 1 8 := ⟨by decide +kernel, rfl⟩
set_option maxRecDepth 100000 in
theorem d_Learner_keepAnswer_8 : Dc m_Learner_keepAnswer 8 (.getfield 18) 3 11 := ⟨by decide +kernel, rfl⟩
set_option maxRecDepth 100000 in
theorem d_Learner_keepAnswer_11 : Dc m_Learner_keepAnswer 11 (.iload_n 2) 1 12 := ⟨by decide +kernel, rfl⟩
set_option maxRecDepth 100000 in
theorem d_Learner_keepAnswer_12 : Dc m_Learner_keepAnswer 12 (.bipush (100)) 2 14 := ⟨by decide +kernel, rfl⟩
set_option maxRecDepth 100000 in
theorem d_Learner_keepAnswer_14 : Dc m_Learner_keepAnswer 14 (.aload_n 0) 1 15 := ⟨by decide +kernel, rfl⟩
set_option maxRecDepth 100000 in
theorem d_Learner_keepAnswer_15 : Dc m_Learner_keepAnswer 15 (.getfield 18) 3 18 := ⟨by decide +kernel, rfl⟩
set_option maxRecDepth 100000 in
theorem d_Learner_keepAnswer_18 : Dc m_Learner_keepAnswer 18 (.iload_n 2) 1 19 := ⟨by decide +kernel, rfl⟩
set_option maxRecDepth 100000 in
theorem d_Learner_keepAnswer_19 : Dc m_Learner_keepAnswer 19 .iaload 1 20 := ⟨by decide +kernel, rfl⟩
set_option maxRecDepth 100000 in
theorem d_Learner_keepAnswer_20 : Dc m_Learner_keepAnswer 20 (.bipush (100)) 2 22 := ⟨by decide +kernel, rfl⟩
set_option maxRecDepth 100000 in
theorem d_Learner_keepAnswer_22 : Dc m_Learner_keepAnswer 22 (.aload_n 0) 1 23 := ⟨by decide +kernel, rfl⟩
set_option maxRecDepth 100000 in
theorem d_Learner_keepAnswer_23 : Dc m_Learner_keepAnswer 23 (.getfield 18) 3 26 := ⟨by decide +kernel, rfl⟩
set_option maxRecDepth 100000 in
theorem d_Learner_keepAnswer_26 : Dc m_Learner_keepAnswer 26 (.iload_n 2) 1 27 := ⟨by decide +kernel, rfl⟩
set_option maxRecDepth 100000 in
theorem d_Learner_keepAnswer_27 : Dc m_Learner_keepAnswer 27 .iaload 1 28 := ⟨by decide +kernel, rfl⟩
set_option maxRecDepth 100000 in
theorem d_Learner_keepAnswer_28 : Dc m_Learner_keepAnswer 28 .isub 1 29 := ⟨by decide +kernel, rfl⟩
set_option maxRecDepth 100000 in
theorem d_Learner_keepAnswer_29 : Dc m_Learner_keepAnswer 29 (.iconst 4) 1 30 := ⟨by decide +kernel, rfl⟩
set_option maxRecDepth 100000 in
theorem d_Learner_keepAnswer_30 : Dc m_Learner_keepAnswer 30 .idiv 1 31 := ⟨by decide +kernel, rfl⟩
set_option maxRecDepth 100000 in
theorem d_Learner_keepAnswer_31 : Dc m_Learner_keepAnswer 31 .iadd 1 32 := ⟨by decide +kernel, rfl⟩
set_option maxRecDepth 100000 in
theorem d_Learner_keepAnswer_32 : Dc m_Learner_keepAnswer 32 (.iconst 1) 1 33 := ⟨by decide +kernel, rfl⟩
set_option maxRecDepth 100000 in
theorem d_Learner_keepAnswer_33 : Dc m_Learner_keepAnswer 33 .iadd 1 34 := ⟨by decide +kernel, rfl⟩
set_option maxRecDepth 100000 in
theorem d_Learner_keepAnswer_34 : Dc m_Learner_keepAnswer 34 (.invokestatic 44) 3 37 := ⟨by decide +kernel, rfl⟩
set_option maxRecDepth 100000 in
theorem d_Learner_keepAnswer_37 : Dc m_Learner_keepAnswer 37 .iastore 1 38 := ⟨by decide +kernel, rfl⟩
set_option maxRecDepth 100000 in
theorem d_Learner_keepAnswer_38 : Dc m_Learner_keepAnswer 38 (.iload_n 3) 1 39 := ⟨by decide +kernel, rfl⟩
set_option maxRecDepth 100000 in
theorem d_Learner_keepAnswer_39 : Dc m_Learner_keepAnswer 39 (.aload_n 0) 1 40 := ⟨by decide +kernel, rfl⟩
set_option maxRecDepth 100000 in
theorem d_Learner_keepAnswer_40 : Dc m_Learner_keepAnswer 40 (.getfield 25) 3 43 := ⟨by decide +kernel, rfl⟩
set_option maxRecDepth 100000 in
theorem d_Learner_keepAnswer_43 : Dc m_Learner_keepAnswer 43 (.iload_n 2) 1 44 := ⟨by decide +kernel, rfl⟩
set_option maxRecDepth 100000 in
theorem d_Learner_keepAnswer_44 : Dc m_Learner_keepAnswer 44 .iaload 1 45 := ⟨by decide +kernel, rfl⟩
set_option maxRecDepth 100000 in
theorem d_Learner_keepAnswer_45 : Dj m_Learner_keepAnswer 45 (.if_icmp .eq) 48 121 := ⟨76, by decide +kernel, rfl, by decide⟩
set_option maxRecDepth 100000 in
theorem d_Learner_keepAnswer_48 : Dc m_Learner_keepAnswer 48 (.aload_n 0) 1 49 := ⟨by decide +kernel, rfl⟩
set_option maxRecDepth 100000 in
theorem d_Learner_keepAnswer_49 : Dc m_Learner_keepAnswer 49 (.getfield 22) 3 52 := ⟨by decide +kernel, rfl⟩
set_option maxRecDepth 100000 in
theorem d_Learner_keepAnswer_52 : Dc m_Learner_keepAnswer 52 (.iload_n 2) 1 53 := ⟨by decide +kernel, rfl⟩
set_option maxRecDepth 100000 in
theorem d_Learner_keepAnswer_53 : Dc m_Learner_keepAnswer 53 (.bipush (9)) 2 55 := ⟨by decide +kernel, rfl⟩
set_option maxRecDepth 100000 in
theorem d_Learner_keepAnswer_55 : Dc m_Learner_keepAnswer 55 (.aload_n 0) 1 56 := ⟨by decide +kernel, rfl⟩
set_option maxRecDepth 100000 in
theorem d_Learner_keepAnswer_56 : Dc m_Learner_keepAnswer 56 (.getfield 22) 3 59 := ⟨by decide +kernel, rfl⟩
set_option maxRecDepth 100000 in
theorem d_Learner_keepAnswer_59 : Dc m_Learner_keepAnswer 59 (.iload_n 2) 1 60 := ⟨by decide +kernel, rfl⟩
set_option maxRecDepth 100000 in
theorem d_Learner_keepAnswer_60 : Dc m_Learner_keepAnswer 60 .iaload 1 61 := ⟨by decide +kernel, rfl⟩
set_option maxRecDepth 100000 in
theorem d_Learner_keepAnswer_61 : Dc m_Learner_keepAnswer 61 (.iconst 1) 1 62 := ⟨by decide +kernel, rfl⟩
set_option maxRecDepth 100000 in
theorem d_Learner_keepAnswer_62 : Dc m_Learner_keepAnswer 62 .iadd 1 63 := ⟨by decide +kernel, rfl⟩
set_option maxRecDepth 100000 in
theorem d_Learner_keepAnswer_63 : Dc m_Learner_keepAnswer 63 (.invokestatic 44) 3 66 := ⟨by decide +kernel, rfl⟩
set_option maxRecDepth 100000 in
theorem d_Learner_keepAnswer_66 : Dc m_Learner_keepAnswer 66 .iastore 1 67 := ⟨by decide +kernel, rfl⟩
set_option maxRecDepth 100000 in
theorem d_Learner_keepAnswer_67 : Dj m_Learner_keepAnswer 67 .goto 70 121 := ⟨54, by decide +kernel, rfl, by decide⟩
set_option maxRecDepth 100000 in
theorem d_Learner_keepAnswer_70 : Dc m_Learner_keepAnswer 70 (.aload_n 1) 1 71 := ⟨by decide +kernel, rfl⟩
set_option maxRecDepth 100000 in
theorem d_Learner_keepAnswer_71 : Dc m_Learner_keepAnswer 71 (.getfield 62) 3 74 := ⟨by decide +kernel, rfl⟩
set_option maxRecDepth 100000 in
theorem d_Learner_keepAnswer_74 : Dc m_Learner_keepAnswer 74 (.iconst 2) 1 75 := ⟨by decide +kernel, rfl⟩
set_option maxRecDepth 100000 in
theorem d_Learner_keepAnswer_75 : Dj m_Learner_keepAnswer 75 (.if_icmp .ne) 78 121 := ⟨46, by decide +kernel, rfl, by decide⟩
set_option maxRecDepth 100000 in
theorem d_Learner_keepAnswer_78 : Dc m_Learner_keepAnswer 78 (.aload_n 0) 1 79 := ⟨by decide +kernel, rfl⟩
set_option maxRecDepth 100000 in
theorem d_Learner_keepAnswer_79 : Dc m_Learner_keepAnswer 79 (.getfield 18) 3 82 := ⟨by decide +kernel, rfl⟩
set_option maxRecDepth 100000 in
theorem d_Learner_keepAnswer_82 : Dc m_Learner_keepAnswer 82 (.iload_n 2) 1 83 := ⟨by decide +kernel, rfl⟩
set_option maxRecDepth 100000 in
theorem d_Learner_keepAnswer_83 : Dc m_Learner_keepAnswer 83 (.iconst 0) 1 84 := ⟨by decide +kernel, rfl⟩
set_option maxRecDepth 100000 in
theorem d_Learner_keepAnswer_84 : Dc m_Learner_keepAnswer 84 (.aload_n 0) 1 85 := ⟨by decide +kernel, rfl⟩
set_option maxRecDepth 100000 in
theorem d_Learner_keepAnswer_85 : Dc m_Learner_keepAnswer 85 (.getfield 18) 3 88 := ⟨by decide +kernel, rfl⟩
set_option maxRecDepth 100000 in
theorem d_Learner_keepAnswer_88 : Dc m_Learner_keepAnswer 88 (.iload_n 2) 1 89 := ⟨by decide +kernel, rfl⟩
set_option maxRecDepth 100000 in
theorem d_Learner_keepAnswer_89 : Dc m_Learner_keepAnswer 89 .iaload 1 90 := ⟨by decide +kernel, rfl⟩
set_option maxRecDepth 100000 in
theorem d_Learner_keepAnswer_90 : Dc m_Learner_keepAnswer 90 (.iconst 1) 1 91 := ⟨by decide +kernel, rfl⟩
set_option maxRecDepth 100000 in
theorem d_Learner_keepAnswer_91 : Dc m_Learner_keepAnswer 91 .isub 1 92 := ⟨by decide +kernel, rfl⟩
set_option maxRecDepth 100000 in
theorem d_Learner_keepAnswer_92 : Dc m_Learner_keepAnswer 92 (.invokestatic 38) 3 95 := ⟨by decide +kernel, rfl⟩
set_option maxRecDepth 100000 in
theorem d_Learner_keepAnswer_95 : Dc m_Learner_keepAnswer 95 .iastore 1 96 := ⟨by decide +kernel, rfl⟩
set_option maxRecDepth 100000 in
theorem d_Learner_keepAnswer_96 : Dc m_Learner_keepAnswer 96 (.aload_n 0) 1 97 := ⟨by decide +kernel, rfl⟩
set_option maxRecDepth 100000 in
theorem d_Learner_keepAnswer_97 : Dc m_Learner_keepAnswer 97 (.getfield 18) 3 100 := ⟨by decide +kernel, rfl⟩
set_option maxRecDepth 100000 in
theorem d_Learner_keepAnswer_100 : Dc m_Learner_keepAnswer 100 (.aload_n 1) 1 101 := ⟨by decide +kernel, rfl⟩
set_option maxRecDepth 100000 in
theorem d_Learner_keepAnswer_101 : Dc m_Learner_keepAnswer 101 (.getfield 65) 3 104 := ⟨by decide +kernel, rfl⟩
set_option maxRecDepth 100000 in
theorem d_Learner_keepAnswer_104 : Dc m_Learner_keepAnswer 104 (.bipush (100)) 2 106 := ⟨by decide +kernel, rfl⟩
set_option maxRecDepth 100000 in
theorem d_Learner_keepAnswer_106 : Dc m_Learner_keepAnswer 106 (.aload_n 0) 1 107 := ⟨by decide +kernel, rfl⟩
set_option maxRecDepth 100000 in
theorem d_Learner_keepAnswer_107 : Dc m_Learner_keepAnswer 107 (.getfield 18) 3 110 := ⟨by decide +kernel, rfl⟩
set_option maxRecDepth 100000 in
theorem d_Learner_keepAnswer_110 : Dc m_Learner_keepAnswer 110 (.aload_n 1) 1 111 := ⟨by decide +kernel, rfl⟩
set_option maxRecDepth 100000 in
theorem d_Learner_keepAnswer_111 : Dc m_Learner_keepAnswer 111 (.getfield 65) 3 114 := ⟨by decide +kernel, rfl⟩
set_option maxRecDepth 100000 in
theorem d_Learner_keepAnswer_114 : Dc m_Learner_keepAnswer 114 .iaload 1 115 := ⟨by decide +kernel, rfl⟩
set_option maxRecDepth 100000 in
theorem d_Learner_keepAnswer_115 : Dc m_Learner_keepAnswer 115 (.iconst 1) 1 116 := ⟨by decide +kernel, rfl⟩
set_option maxRecDepth 100000 in
theorem d_Learner_keepAnswer_116 : Dc m_Learner_keepAnswer 116 .iadd 1 117 := ⟨by decide +kernel, rfl⟩
set_option maxRecDepth 100000 in
theorem d_Learner_keepAnswer_117 : Dc m_Learner_keepAnswer 117 (.invokestatic 44) 3 120 := ⟨by decide +kernel, rfl⟩
set_option maxRecDepth 100000 in
theorem d_Learner_keepAnswer_120 : Dc m_Learner_keepAnswer 120 .iastore 1 121 := ⟨by decide +kernel, rfl⟩
set_option maxRecDepth 100000 in
theorem d_Learner_keepAnswer_121 : Dc m_Learner_keepAnswer 121 (.aload_n 0) 1 122 := ⟨by decide +kernel, rfl⟩
set_option maxRecDepth 100000 in
theorem d_Learner_keepAnswer_122 : Dc m_Learner_keepAnswer 122 (.getfield 25) 3 125 := ⟨by decide +kernel, rfl⟩
set_option maxRecDepth 100000 in
theorem d_Learner_keepAnswer_125 : Dc m_Learner_keepAnswer 125 (.iload_n 2) 1 126 := ⟨by decide +kernel, rfl⟩
set_option maxRecDepth 100000 in
theorem d_Learner_keepAnswer_126 : Dc m_Learner_keepAnswer 126 (.iload_n 3) 1 127 := ⟨by decide +kernel, rfl⟩
set_option maxRecDepth 100000 in
theorem d_Learner_keepAnswer_127 : Dc m_Learner_keepAnswer 127 .iastore 1 128 := ⟨by decide +kernel, rfl⟩
set_option maxRecDepth 100000 in
theorem d_Learner_keepAnswer_128 : Dc m_Learner_keepAnswer 128 .return_ 1 129 := ⟨by decide +kernel, rfl⟩
set_option maxRecDepth 100000 in
theorem d_Learner_sleep_0 : Dc m_Learner_sleep 0 (.iconst 0) 1 1 := ⟨by decide +kernel, rfl⟩
set_option maxRecDepth 100000 in
theorem d_Learner_sleep_1 : Dc m_Learner_sleep 1 (.istore_n 3) 1 2 := ⟨by decide +kernel, rfl⟩
set_option maxRecDepth 100000 in
theorem d_Learner_sleep_2 : Dc m_Learner_sleep 2 (.iload_n 3) 1 3 := ⟨by decide +kernel, rfl⟩
set_option maxRecDepth 100000 in
theorem d_Learner_sleep_3 : Dc m_Learner_sleep 3 (.bipush (36)) 2 5 := ⟨by decide +kernel, rfl⟩
set_option maxRecDepth 100000 in
theorem d_Learner_sleep_5 : Dj m_Learner_sleep 5 (.if_icmp .ge) 8 37 := ⟨32, by decide +kernel, rfl, by decide⟩
set_option maxRecDepth 100000 in
theorem d_Learner_sleep_8 : Dc m_Learner_sleep 8 (.aload_n 0) 1 9 := ⟨by decide +kernel, rfl⟩
set_option maxRecDepth 100000 in
theorem d_Learner_sleep_9 : Dc m_Learner_sleep 9 (.getfield 18) 3 12 := ⟨by decide +kernel, rfl⟩
set_option maxRecDepth 100000 in
theorem d_Learner_sleep_12 : Dc m_Learner_sleep 12 (.iload_n 3) 1 13 := ⟨by decide +kernel, rfl⟩
set_option maxRecDepth 100000 in
theorem d_Learner_sleep_13 : Dc m_Learner_sleep 13 (.aload_n 0) 1 14 := ⟨by decide +kernel, rfl⟩
set_option maxRecDepth 100000 in
theorem d_Learner_sleep_14 : Dc m_Learner_sleep 14 (.getfield 18) 3 17 := ⟨by decide +kernel, rfl⟩
set_option maxRecDepth 100000 in
theorem d_Learner_sleep_17 : Dc m_Learner_sleep 17 (.iload_n 3) 1 18 := ⟨by decide +kernel, rfl⟩
set_option maxRecDepth 100000 in
theorem d_Learner_sleep_18 : Dc m_Learner_sleep 18 .iaload 1 19 := ⟨by decide +kernel, rfl⟩
set_option maxRecDepth 100000 in
theorem d_Learner_sleep_19 : Dc m_Learner_sleep 19 (.aload_n 0) 1 20 := ⟨by decide +kernel, rfl⟩
set_option maxRecDepth 100000 in
theorem d_Learner_sleep_20 : Dc m_Learner_sleep 20 (.getfield 22) 3 23 := ⟨by decide +kernel, rfl⟩
set_option maxRecDepth 100000 in
theorem d_Learner_sleep_23 : Dc m_Learner_sleep 23 (.iload_n 3) 1 24 := ⟨by decide +kernel, rfl⟩
set_option maxRecDepth 100000 in
theorem d_Learner_sleep_24 : Dc m_Learner_sleep 24 .iaload 1 25 := ⟨by decide +kernel, rfl⟩
set_option maxRecDepth 100000 in
theorem d_Learner_sleep_25 : Dc m_Learner_sleep 25 (.iload_n 1) 1 26 := ⟨by decide +kernel, rfl⟩
set_option maxRecDepth 100000 in
theorem d_Learner_sleep_26 : Dc m_Learner_sleep 26 (.iload_n 2) 1 27 := ⟨by decide +kernel, rfl⟩
set_option maxRecDepth 100000 in
theorem d_Learner_sleep_27 : Dc m_Learner_sleep 27 (.invokestatic 68) 3 30 := ⟨by decide +kernel, rfl⟩
set_option maxRecDepth 100000 in
theorem d_Learner_sleep_30 : Dc m_Learner_sleep 30 .iastore 1 31 := ⟨by decide +kernel, rfl⟩
set_option maxRecDepth 100000 in
theorem d_Learner_sleep_31 : Dc m_Learner_sleep 31 (.iinc 3 (1)) 3 34 := ⟨by decide +kernel, rfl⟩
set_option maxRecDepth 100000 in
theorem d_Learner_sleep_34 : Dj m_Learner_sleep 34 .goto 37 2 := ⟨-32, by decide +kernel, rfl, by decide⟩
set_option maxRecDepth 100000 in
theorem d_Learner_sleep_37 : Dc m_Learner_sleep 37 .return_ 1 38 := ⟨by decide +kernel, rfl⟩
set_option maxRecDepth 100000 in
theorem d_Learner_box_0 : Dc m_Learner_box 0 (.iconst 5) 1 1 := ⟨by decide +kernel, rfl⟩
set_option maxRecDepth 100000 in
theorem d_Learner_box_1 : Dc m_Learner_box 1 (.iconst 1) 1 2 := ⟨by decide +kernel, rfl⟩
set_option maxRecDepth 100000 in
theorem d_Learner_box_2 : Dc m_Learner_box 2 (.aload_n 0) 1 3 := ⟨by decide +kernel, rfl⟩
set_option maxRecDepth 100000 in
theorem d_Learner_box_3 : Dc m_Learner_box 3 (.getfield 22) 3 6 := ⟨by decide +kernel, rfl⟩
set_option maxRecDepth 100000 in
theorem d_Learner_box_6 : Dc m_Learner_box 6 (.iload_n 1) 1 7 := ⟨by decide +kernel, rfl⟩
set_option maxRecDepth 100000 in
theorem d_Learner_box_7 : Dc m_Learner_box 7 .iaload 1 8 := ⟨by decide +kernel, rfl⟩
set_option maxRecDepth 100000 in
theorem d_Learner_box_8 : Dc m_Learner_box 8 (.iconst 2) 1 9 := ⟨by decide +kernel, rfl⟩
set_option maxRecDepth 100000 in
theorem d_Learner_box_9 : Dc m_Learner_box 9 .idiv 1 10 := ⟨by decide +kernel, rfl⟩
set_option maxRecDepth 100000 in
theorem d_Learner_box_10 : Dc m_Learner_box 10 .iadd 1 11 := ⟨by decide +kernel, rfl⟩
set_option maxRecDepth 100000 in
theorem d_Learner_box_11 : Dc m_Learner_box 11 (.invokestatic 44) 3 14 := ⟨by decide +kernel, rfl⟩
set_option maxRecDepth 100000 in
theorem d_Learner_box_14 : Dc m_Learner_box 14 .ireturn 1 15 := ⟨by decide +kernel, rfl⟩
set_option maxRecDepth 100000 in
theorem d_Learner_due_0 : Dc m_Learner_due 0 (.aload_n 0) 1 1 := ⟨by decide +kernel, rfl⟩
set_option maxRecDepth 100000 in
theorem d_Learner_due_1 : Dc m_Learner_due 1 (.getfield 25) 3 4 := ⟨by decide +kernel, rfl⟩
set_option maxRecDepth 100000 in
theorem d_Learner_due_4 : Dc m_Learner_due 4 (.iload_n 1) 1 5 := ⟨by decide +kernel, rfl⟩
set_option maxRecDepth 100000 in
theorem d_Learner_due_5 : Dc m_Learner_due 5 .iaload 1 6 := ⟨by decide +kernel, rfl⟩
set_option maxRecDepth 100000 in
theorem d_Learner_due_6 : Dc m_Learner_due 6 (.bipush (-9)) 2 8 := ⟨by decide +kernel, rfl⟩
set_option maxRecDepth 100000 in
theorem d_Learner_due_8 : Dj m_Learner_due 8 (.if_icmp .ne) 11 13 := ⟨5, by decide +kernel, rfl, by decide⟩
set_option maxRecDepth 100000 in
theorem d_Learner_due_11 : Dc m_Learner_due 11 (.iconst 0) 1 12 := ⟨by decide +kernel, rfl⟩
set_option maxRecDepth 100000 in
theorem d_Learner_due_12 : Dc m_Learner_due 12 .ireturn 1 13 := ⟨by decide +kernel, rfl⟩
set_option maxRecDepth 100000 in
theorem d_Learner_due_13 : Dc m_Learner_due 13 (.aload_n 0) 1 14 := ⟨by decide +kernel, rfl⟩
set_option maxRecDepth 100000 in
theorem d_Learner_due_14 : Dc m_Learner_due 14 (.getfield 25) 3 17 := ⟨by decide +kernel, rfl⟩
set_option maxRecDepth 100000 in
theorem d_Learner_due_17 : Dc m_Learner_due 17 (.iload_n 1) 1 18 := ⟨by decide +kernel, rfl⟩
set_option maxRecDepth 100000 in
theorem d_Learner_due_18 : Dc m_Learner_due 18 .iaload 1 19 := ⟨by decide +kernel, rfl⟩
set_option maxRecDepth 100000 in
theorem d_Learner_due_19 : Dc m_Learner_due 19 (.iconst 1) 1 20 := ⟨by decide +kernel, rfl⟩
set_option maxRecDepth 100000 in
theorem d_Learner_due_20 : Dc m_Learner_due 20 (.aload_n 0) 1 21 := ⟨by decide +kernel, rfl⟩
set_option maxRecDepth 100000 in
theorem d_Learner_due_21 : Dc m_Learner_due 21 (.iload_n 1) 1 22 := ⟨by decide +kernel, rfl⟩
set_option maxRecDepth 100000 in
theorem d_Learner_due_22 : Dc m_Learner_due 22 (.invokevirtual 72) 3 25 := ⟨by decide +kernel, rfl⟩
set_option maxRecDepth 100000 in
theorem d_Learner_due_25 : Dc m_Learner_due 25 (.iconst 1) 1 26 := ⟨by decide +kernel, rfl⟩
set_option maxRecDepth 100000 in
theorem d_Learner_due_26 : Dc m_Learner_due 26 .isub 1 27 := ⟨by decide +kernel, rfl⟩
set_option maxRecDepth 100000 in
theorem d_Learner_due_27 : Dc m_Learner_due 27 .ishl 1 28 := ⟨by decide +kernel, rfl⟩
set_option maxRecDepth 100000 in
theorem d_Learner_due_28 : Dc m_Learner_due 28 .iadd 1 29 := ⟨by decide +kernel, rfl⟩
set_option maxRecDepth 100000 in
theorem d_Learner_due_29 : Dc m_Learner_due 29 .ireturn 1 30 := ⟨by decide +kernel, rfl⟩
set_option maxRecDepth 100000 in
theorem d_Lesson_init_0 : Dc m_Lesson_init 0 (.aload_n 0) 1 1 := ⟨by decide +kernel, rfl⟩
set_option maxRecDepth 100000 in
theorem d_Lesson_init_1 : Dc m_Lesson_init 1 (.invokespecial 3) 3 4 := ⟨by decide +kernel, rfl⟩
set_option maxRecDepth 100000 in
theorem d_Lesson_init_4 : Dc m_Lesson_init 4 (.aload_n 0) 1 5 := ⟨by decide +kernel, rfl⟩
set_option maxRecDepth 100000 in
theorem d_Lesson_init_5 : Dc m_Lesson_init 5 (.bipush (12)) 2 7 := ⟨by decide +kernel, rfl⟩
set_option maxRecDepth 100000 in
theorem d_Lesson_init_7 : Dc m_Lesson_init 7 (.newarray .int) 2 9 := ⟨by decide +kernel, rfl⟩
set_option maxRecDepth 100000 in
theorem d_Lesson_init_9 : Dc m_Lesson_init 9 (.putfield 9) 3 12 := ⟨by decide +kernel, rfl⟩
set_option maxRecDepth 100000 in
theorem d_Lesson_init_12 : Dc m_Lesson_init 12 (.aload_n 0) 1 13 := ⟨by decide +kernel, rfl⟩
set_option maxRecDepth 100000 in
theorem d_Lesson_init_13 : Dc m_Lesson_init 13 (.bipush (12)) 2 15 := ⟨by decide +kernel, rfl⟩
set_option maxRecDepth 100000 in
theorem d_Lesson_init_15 : Dc m_Lesson_init 15 (.newarray .int) 2 17 := ⟨by decide +kernel, rfl⟩
set_option maxRecDepth 100000 in
theorem d_Lesson_init_17 : Dc m_Lesson_init 17 (.putfield 15) 3 20 := ⟨by decide +kernel, rfl⟩
set_option maxRecDepth 100000 in
theorem d_Lesson_init_20 : Dc m_Lesson_init 20 (.aload_n 0) 1 21 := ⟨by decide +kernel, rfl⟩
set_option maxRecDepth 100000 in
theorem d_Lesson_init_21 : Dc m_Lesson_init 21 (.bipush (12)) 2 23 := ⟨by decide +kernel, rfl⟩
set_option maxRecDepth 100000 in
theorem d_Lesson_init_23 : Dc m_Lesson_init 23 (.newarray .int) 2 25 := ⟨by decide +kernel, rfl⟩
set_option maxRecDepth 100000 in
theorem d_Lesson_init_25 : Dc m_Lesson_init 25 (.putfield 18) 3 28 := ⟨by decide +kernel, rfl⟩
set_option maxRecDepth 100000 in
theorem d_Lesson_init_28 : Dc m_Lesson_init 28 (.aload_n 0) 1 29 := ⟨by decide +kernel, rfl⟩
set_option maxRecDepth 100000 in
theorem d_Lesson_init_29 : Dc m_Lesson_init 29 (.iconst 0) 1 30 := ⟨by decide +kernel, rfl⟩
set_option maxRecDepth 100000 in
theorem d_Lesson_init_30 : Dc m_Lesson_init 30 (.putfield 21) 3 33 := ⟨by decide +kernel, rfl⟩
set_option maxRecDepth 100000 in
theorem d_Lesson_init_33 : Dc m_Lesson_init 33 .return_ 1 34 := ⟨by decide +kernel, rfl⟩
set_option maxRecDepth 100000 in
theorem d_Lesson_append_0 : Dc m_Lesson_append 0 (.aload_n 0) 1 1 := ⟨by decide +kernel, rfl⟩
set_option maxRecDepth 100000 in
theorem d_Lesson_append_1 : Dc m_Lesson_append 1 (.getfield 21) 3 4 := ⟨by decide +kernel, rfl⟩
set_option maxRecDepth 100000 in
theorem d_Lesson_append_4 : Dc m_Lesson_append 4 (.bipush (12)) 2 6 := ⟨by decide +kernel, rfl⟩
set_option maxRecDepth 100000 in
theorem d_Lesson_append_6 : Dj m_Lesson_append 6 (.if_icmp .lt) 9 10 := ⟨4, by decide +kernel, rfl, by decide⟩
set_option maxRecDepth 100000 in
theorem d_Lesson_append_9 : Dc m_Lesson_append 9 .return_ 1 10 := ⟨by decide +kernel, rfl⟩
set_option maxRecDepth 100000 in
theorem d_Lesson_append_10 : Dc m_Lesson_append 10 (.aload_n 0) 1 11 := ⟨by decide +kernel, rfl⟩
set_option maxRecDepth 100000 in
theorem d_Lesson_append_11 : Dc m_Lesson_append 11 (.getfield 9) 3 14 := ⟨by decide +kernel, rfl⟩
set_option maxRecDepth 100000 in
theorem d_Lesson_append_14 : Dc m_Lesson_append 14 (.aload_n 0) 1 15 := ⟨by decide +kernel, rfl⟩
set_option maxRecDepth 100000 in
theorem d_Lesson_append_15 : Dc m_Lesson_append 15 (.getfield 21) 3 18 := ⟨by decide +kernel, rfl⟩
set_option maxRecDepth 100000 in
theorem d_Lesson_append_18 : Dc m_Lesson_append 18 (.iload_n 1) 1 19 := ⟨by decide +kernel, rfl⟩
set_option maxRecDepth 100000 in
theorem d_Lesson_append_19 : Dc m_Lesson_append 19 .iastore 1 20 := ⟨by decide +kernel, rfl⟩
set_option maxRecDepth 100000 in
theorem d_Lesson_append_20 : Dc m_Lesson_append 20 (.aload_n 0) 1 21 := ⟨by decide +kernel, rfl⟩
set_option maxRecDepth 100000 in
theorem d_Lesson_append_21 : Dc m_Lesson_append 21 (.getfield 15) 3 24 := ⟨by decide +kernel, rfl⟩
set_option maxRecDepth 100000 in
theorem d_Lesson_append_24 : Dc m_Lesson_append 24 (.aload_n 0) 1 25 := ⟨by decide +kernel, rfl⟩
set_option maxRecDepth 100000 in
theorem d_Lesson_append_25 : Dc m_Lesson_append 25 (.getfield 21) 3 28 := ⟨by decide +kernel, rfl⟩
set_option maxRecDepth 100000 in
theorem d_Lesson_append_28 : Dc m_Lesson_append 28 (.iload_n 2) 1 29 := ⟨by decide +kernel, rfl⟩
set_option maxRecDepth 100000 in
theorem d_Lesson_append_29 : Dc m_Lesson_append 29 .iastore 1 30 := ⟨by decide +kernel, rfl⟩
set_option maxRecDepth 100000 in
theorem d_Lesson_append_30 : Dc m_Lesson_append 30 (.aload_n 0) 1 31 := ⟨by decide +kernel, rfl⟩
set_option maxRecDepth 100000 in
theorem d_Lesson_append_31 : Dc m_Lesson_append 31 (.getfield 18) 3 34 := ⟨by decide +kernel, rfl⟩
set_option maxRecDepth 100000 in
theorem d_Lesson_append_34 : Dc m_Lesson_append 34 (.aload_n 0) 1 35 := ⟨by decide +kernel, rfl⟩
set_option maxRecDepth 100000 in
theorem d_Lesson_append_35 : Dc m_Lesson_append 35 (.getfield 21) 3 38 := ⟨by decide +kernel, rfl⟩
set_option maxRecDepth 100000 in
theorem d_Lesson_append_38 : Dc m_Lesson_append 38 (.iload_n 3) 1 39 := ⟨by decide +kernel, rfl⟩
set_option maxRecDepth 100000 in
theorem d_Lesson_append_39 : Dc m_Lesson_append 39 .iastore 1 40 := ⟨by decide +kernel, rfl⟩
set_option maxRecDepth 100000 in
theorem d_Lesson_append_40 : Dc m_Lesson_append 40 (.aload_n 0) 1 41 := ⟨by decide +kernel, rfl⟩
set_option maxRecDepth 100000 in
theorem d_Lesson_append_41 : Dc m_Lesson_append 41 .dup 1 42 := ⟨by decide +kernel, rfl⟩
set_option maxRecDepth 100000 in
theorem d_Lesson_append_42 : Dc m_Lesson_append 42 (.getfield 21) 3 45 := ⟨by decide +kernel, rfl⟩
set_option maxRecDepth 100000 in
theorem d_Lesson_append_45 : Dc m_Lesson_append 45 (.iconst 1) 1 46 := ⟨by decide +kernel, rfl⟩
set_option maxRecDepth 100000 in
theorem d_Lesson_append_46 : Dc m_Lesson_append 46 .iadd 1 47 := ⟨by decide +kernel, rfl⟩
set_option maxRecDepth 100000 in
theorem d_Lesson_append_47 : Dc m_Lesson_append 47 (.putfield 21) 3 50 := ⟨by decide +kernel, rfl⟩
set_option maxRecDepth 100000 in
theorem d_Lesson_append_50 : Dc m_Lesson_append 50 .return_ 1 51 := ⟨by decide +kernel, rfl⟩
set_option maxRecDepth 100000 in
theorem d_Lesson_copyFrom_0 : Dc m_Lesson_copyFrom 0 (.aload_n 1) 1 1 := ⟨by decide +kernel, rfl⟩
set_option maxRecDepth 100000 in
theorem d_Lesson_copyFrom_1 : Dc m_Lesson_copyFrom 1 (.getfield 9) 3 4 := ⟨by decide +kernel, rfl⟩
set_option maxRecDepth 100000 in
theorem d_Lesson_copyFrom_4 : Dc m_Lesson_copyFrom 4 (.iconst 0) 1 5 := ⟨by decide +kernel, rfl⟩
set_option maxRecDepth 100000 in
theorem d_Lesson_copyFrom_5 : Dc m_Lesson_copyFrom 5 (.aload_n 0) 1 6 := ⟨by decide +kernel, rfl⟩
set_option maxRecDepth 100000 in
theorem d_Lesson_copyFrom_6 : Dc m_Lesson_copyFrom 6 (.getfield 9) 3 9 := ⟨by decide +kernel, rfl⟩
set_option maxRecDepth 100000 in
theorem d_Lesson_copyFrom_9 : Dc m_Lesson_copyFrom 9 (.iconst 0) 1 10 := ⟨by decide +kernel, rfl⟩
set_option maxRecDepth 100000 in
theorem d_Lesson_copyFrom_10 : Dc m_Lesson_copyFrom 10 (.bipush (12)) 2 12 := ⟨by decide +kernel, rfl⟩
set_option maxRecDepth 100000 in
theorem d_Lesson_copyFrom_12 : Dc m_Lesson_copyFrom 12 (.invokestatic 25) 3 15 := ⟨by decide +kernel, rfl⟩
set_option maxRecDepth 100000 in
theorem d_Lesson_copyFrom_15 : Dc m_Lesson_copyFrom 15 (.aload_n 1) 1 16 := ⟨by decide +kernel, rfl⟩
set_option maxRecDepth 100000 in
theorem d_Lesson_copyFrom_16 : Dc m_Lesson_copyFrom 16 (.getfield 15) 3 19 := ⟨by decide +kernel, rfl⟩
set_option maxRecDepth 100000 in
theorem d_Lesson_copyFrom_19 : Dc m_Lesson_copyFrom 19 (.iconst 0) 1 20 := ⟨by decide +kernel, rfl⟩
set_option maxRecDepth 100000 in
theorem d_Lesson_copyFrom_20 : Dc m_Lesson_copyFrom 20 (.aload_n 0) 1 21 := ⟨by decide +kernel, rfl⟩
set_option maxRecDepth 100000 in
theorem d_Lesson_copyFrom_21 : Dc m_Lesson_copyFrom 21 (.getfield 15) 3 24 := ⟨by decide +kernel, rfl⟩
set_option maxRecDepth 100000 in
theorem d_Lesson_copyFrom_24 : Dc m_Lesson_copyFrom 24 (.iconst 0) 1 25 := ⟨by decide +kernel, rfl⟩
set_option maxRecDepth 100000 in
theorem d_Lesson_copyFrom_25 : Dc m_Lesson_copyFrom 25 (.bipush (12)) 2 27 := ⟨by decide +kernel, rfl⟩
set_option maxRecDepth 100000 in
theorem d_Lesson_copyFrom_27 : Dc m_Lesson_copyFrom 27 (.invokestatic 25) 3 30 := ⟨by decide +kernel, rfl⟩
set_option maxRecDepth 100000 in
theorem d_Lesson_copyFrom_30 : Dc m_Lesson_copyFrom 30 (.aload_n 1) 1 31 := ⟨by decide +kernel, rfl⟩
set_option maxRecDepth 100000 in
theorem d_Lesson_copyFrom_31 : Dc m_Lesson_copyFrom 31 (.getfield 18) 3 34 := ⟨by decide +kernel, rfl⟩
set_option maxRecDepth 100000 in
theorem d_Lesson_copyFrom_34 : Dc m_Lesson_copyFrom 34 (.iconst 0) 1 35 := ⟨by decide +kernel, rfl⟩
set_option maxRecDepth 100000 in
theorem d_Lesson_copyFrom_35 : Dc m_Lesson_copyFrom 35 (.aload_n 0) 1 36 := ⟨by decide +kernel, rfl⟩
set_option maxRecDepth 100000 in
theorem d_Lesson_copyFrom_36 : Dc m_Lesson_copyFrom 36 (.getfield 18) 3 39 := ⟨by decide +kernel, rfl⟩
set_option maxRecDepth 100000 in
theorem d_Lesson_copyFrom_39 : Dc m_Lesson_copyFrom 39 (.iconst 0) 1 40 := ⟨by decide +kernel, rfl⟩
set_option maxRecDepth 100000 in
theorem d_Lesson_copyFrom_40 : Dc m_Lesson_copyFrom 40 (.bipush (12)) 2 42 := ⟨by decide +kernel, rfl⟩
set_option maxRecDepth 100000 in
theorem d_Lesson_copyFrom_42 : Dc m_Lesson_copyFrom 42 (.invokestatic 25) 3 45 := ⟨by decide +kernel, rfl⟩
set_option maxRecDepth 100000 in
theorem d_Lesson_copyFrom_45 : Dc m_Lesson_copyFrom 45 (.aload_n 0) 1 46 := ⟨by decide +kernel, rfl⟩
set_option maxRecDepth 100000 in
theorem d_Lesson_copyFrom_46 : Dc m_Lesson_copyFrom 46 (.aload_n 1) 1 47 := ⟨by decide +kernel, rfl⟩
set_option maxRecDepth 100000 in
theorem d_Lesson_copyFrom_47 : Dc m_Lesson_copyFrom 47 (.getfield 21) 3 50 := ⟨by decide +kernel, rfl⟩
set_option maxRecDepth 100000 in
theorem d_Lesson_copyFrom_50 : Dc m_Lesson_copyFrom 50 (.putfield 21) 3 53 := ⟨by decide +kernel, rfl⟩
set_option maxRecDepth 100000 in
theorem d_Lesson_copyFrom_53 : Dc m_Lesson_copyFrom 53 .return_ 1 54 := ⟨by decide +kernel, rfl⟩
set_option maxRecDepth 100000 in
theorem d_Plan_init_0 : Dc m_Plan_init 0 (.aload_n 0) 1 1 := ⟨by decide +kernel, rfl⟩
set_option maxRecDepth 100000 in
theorem d_Plan_init_1 : Dc m_Plan_init 1 (.invokespecial 3) 3 4 := ⟨by decide +kernel, rfl⟩
set_option maxRecDepth 100000 in
theorem d_Plan_init_4 : Dc m_Plan_init 4 (.aload_n 0) 1 5 := ⟨by decide +kernel, rfl⟩
set_option maxRecDepth 100000 in
theorem d_Plan_init_5 : Dc m_Plan_init 5 (.bipush (36)) 2 7 := ⟨by decide +kernel, rfl⟩
set_option maxRecDepth 100000 in
theorem d_Plan_init_7 : Dc m_Plan_init 7 (.newarray .int) 2 9 := ⟨by decide +kernel, rfl⟩
set_option maxRecDepth 100000 in
theorem d_Plan_init_9 : Dc m_Plan_init 9 (.putfield 9) 3 12 := ⟨by decide +kernel, rfl⟩
set_option maxRecDepth 100000 in
theorem d_Plan_init_12 : Dc m_Plan_init 12 (.aload_n 0) 1 13 := ⟨by decide +kernel, rfl⟩
set_option maxRecDepth 100000 in
theorem d_Plan_init_13 : Dc m_Plan_init 13 (.bipush (36)) 2 15 := ⟨by decide +kernel, rfl⟩
set_option maxRecDepth 100000 in
theorem d_Plan_init_15 : Dc m_Plan_init 15 (.newarray .int) 2 17 := ⟨by decide +kernel, rfl⟩
set_option maxRecDepth 100000 in
theorem d_Plan_init_17 : Dc m_Plan_init 17 (.putfield 15) 3 20 := ⟨by decide +kernel, rfl⟩
set_option maxRecDepth 100000 in
theorem d_Plan_init_20 : Dc m_Plan_init 20 (.aload_n 0) 1 21 := ⟨by decide +kernel, rfl⟩
set_option maxRecDepth 100000 in
theorem d_Plan_init_21 : Dc m_Plan_init 21 (.iconst 0) 1 22 := ⟨by decide +kernel, rfl⟩
set_option maxRecDepth 100000 in
theorem d_Plan_init_22 : Dc m_Plan_init 22 (.putfield 18) 3 25 := ⟨by decide +kernel, rfl⟩
set_option maxRecDepth 100000 in
theorem d_Plan_init_25 : Dc m_Plan_init 25 (.aload_n 0) 1 26 := ⟨by decide +kernel, rfl⟩
set_option maxRecDepth 100000 in
theorem d_Plan_init_26 : Dc m_Plan_init 26 (.iconst 0) 1 27 := ⟨by decide +kernel, rfl⟩
set_option maxRecDepth 100000 in
theorem d_Plan_init_27 : Dc m_Plan_init 27 (.putfield 22) 3 30 := ⟨by decide +kernel, rfl⟩
set_option maxRecDepth 100000 in
theorem d_Plan_init_30 : Dc m_Plan_init 30 (.aload_n 0) 1 31 := ⟨by decide +kernel, rfl⟩
set_option maxRecDepth 100000 in
theorem d_Plan_init_31 : Dc m_Plan_init 31 (.iconst 0) 1 32 := ⟨by decide +kernel, rfl⟩
set_option maxRecDepth 100000 in
theorem d_Plan_init_32 : Dc m_Plan_init 32 (.putfield 25) 3 35 := ⟨by decide +kernel, rfl⟩
set_option maxRecDepth 100000 in
theorem d_Plan_init_35 : Dc m_Plan_init 35 .return_ 1 36 := ⟨by decide +kernel, rfl⟩
set_option maxRecDepth 100000 in
theorem d_Plan_weigh_0 : Dc m_Plan_weigh 0 (.aload_n 0) 1 1 := ⟨by decide +kernel, rfl⟩
set_option maxRecDepth 100000 in
theorem d_Plan_weigh_1 : Dc m_Plan_weigh 1 (.iconst 0) 1 2 := ⟨by decide +kernel, rfl⟩
set_option maxRecDepth 100000 in
theorem d_Plan_weigh_2 : Dc m_Plan_weigh 2 (.putfield 18) 3 5 := ⟨by decide +kernel, rfl⟩
set_option maxRecDepth 100000 in
theorem d_Plan_weigh_5 : Dc m_Plan_weigh 5 (.iconst 0) 1 6 := ⟨by decide +kernel, rfl⟩
set_option maxRecDepth 100000 in
theorem d_Plan_weigh_6 : Dc m_Plan_weigh 6 (.istore 4) 2 8 := ⟨by decide +kernel, rfl⟩
set_option maxRecDepth 100000 in
theorem d_Plan_weigh_8 : Dc m_Plan_weigh 8 (.iload 4) 2 10 := ⟨by decide +kernel, rfl⟩
set_option maxRecDepth 100000 in
theorem d_Plan_weigh_10 : Dc m_Plan_weigh 10 (.bipush (36)) 2 12 := ⟨by decide +kernel, rfl⟩
set_option maxRecDepth 100000 in
theorem d_Plan_weigh_12 : Dj m_Plan_weigh 12 (.if_icmp .ge) 15 114 := ⟨102, by decide +kernel, rfl, by decide⟩
set_option maxRecDepth 100000 in
theorem d_Plan_weigh_15 : Dc m_Plan_weigh 15 (.aload_n 1) 1 16 := ⟨by decide +kernel, rfl⟩
set_option maxRecDepth 100000 in
theorem d_Plan_weigh_16 : Dc m_Plan_weigh 16 (.getfield 28) 3 19 := ⟨by decide +kernel, rfl⟩
set_option maxRecDepth 100000 in
theorem d_Plan_weigh_19 : Dc m_Plan_weigh 19 (.iload 4) 2 21 := ⟨by decide +kernel, rfl⟩
set_option maxRecDepth 100000 in
theorem d_Plan_weigh_21 : Dc m_Plan_weigh 21 .iaload 1 22 := ⟨by decide +kernel, rfl⟩
set_option maxRecDepth 100000 in
theorem d_Plan_weigh_22 : Dc m_Plan_weigh 22 (.istore 5) 2 24 := ⟨by decide +kernel, rfl⟩
set_option maxRecDepth 100000 in
theorem d_Plan_weigh_24 : Dc m_Plan_weigh 24 (.aload_n 1) 1 25 := ⟨by decide +kernel, rfl⟩
set_option maxRecDepth 100000 in
theorem d_Plan_weigh_25 : Dc m_Plan_weigh 25 (.getfield 33) 3 28 := ⟨by decide +kernel, rfl⟩
set_option maxRecDepth 100000 in
theorem d_Plan_weigh_28 : Dc m_Plan_weigh 28 (.iload 4) 2 30 := ⟨by decide +kernel, rfl⟩
set_option maxRecDepth 100000 in
theorem d_Plan_weigh_30 : Dc m_Plan_weigh 30 .iaload 1 31 := ⟨by decide +kernel, rfl⟩
set_option maxRecDepth 100000 in
theorem d_Plan_weigh_31 : Dc m_Plan_weigh 31 (.invokestatic 36) 3 34 := ⟨by decide +kernel, rfl⟩
set_option maxRecDepth 100000 in
theorem d_Plan_weigh_34 : Dc m_Plan_weigh 34 (.istore 6) 2 36 := ⟨by decide +kernel, rfl⟩
set_option maxRecDepth 100000 in
theorem d_Plan_weigh_36 : Dc m_Plan_weigh 36 (.iload 6) 2 38 := ⟨by decide +kernel, rfl⟩
set_option maxRecDepth 100000 in
theorem d_Plan_weigh_38 : Dc m_Plan_weigh 38 (.invokestatic 36) 3 41 := ⟨by decide +kernel, rfl⟩
set_option maxRecDepth 100000 in
theorem d_Plan_weigh_41 : Dc m_Plan_weigh 41 (.istore 7) 2 43 := ⟨by decide +kernel, rfl⟩
set_option maxRecDepth 100000 in
theorem d_Plan_weigh_43 : Dc m_Plan_weigh 43 (.aload_n 1) 1 44 := ⟨by decide +kernel, rfl⟩
set_option maxRecDepth 100000 in
theorem d_Plan_weigh_44 : Dc m_Plan_weigh 44 (.getfield 33) 3 47 := ⟨by decide +kernel, rfl⟩
set_option maxRecDepth 100000 in
theorem d_Plan_weigh_47 : Dc m_Plan_weigh 47 (.iload 4) 2 49 := ⟨by decide +kernel, rfl⟩
set_option maxRecDepth 100000 in
theorem d_Plan_weigh_49 : Dc m_Plan_weigh 49 .iaload 1 50 := ⟨by decide +kernel, rfl⟩
set_option maxRecDepth 100000 in
theorem d_Plan_weigh_50 : Dc m_Plan_weigh 50 (.iload 5) 2 52 := ⟨by decide +kernel, rfl⟩
set_option maxRecDepth 100000 in
theorem d_Plan_weigh_52 : Dc m_Plan_weigh 52 (.iload_n 2) 1 53 := ⟨by decide +kernel, rfl⟩
set_option maxRecDepth 100000 in
theorem d_Plan_weigh_53 : Dc m_Plan_weigh 53 (.iload_n 3) 1 54 := ⟨by decide +kernel, rfl⟩
set_option maxRecDepth 100000 in
theorem d_Plan_weigh_54 : Dc m_Plan_weigh 54 (.invokestatic 40) 3 57 := ⟨by decide +kernel, rfl⟩
set_option maxRecDepth 100000 in
theorem d_Plan_weigh_57 : Dc m_Plan_weigh 57 (.istore 8) 2 59 := ⟨by decide +kernel, rfl⟩
set_option maxRecDepth 100000 in
theorem d_Plan_weigh_59 : Dc m_Plan_weigh 59 (.aload_n 0) 1 60 := ⟨by decide +kernel, rfl⟩
set_option maxRecDepth 100000 in
theorem d_Plan_weigh_60 : Dc m_Plan_weigh 60 .dup 1 61 := ⟨by decide +kernel, rfl⟩
set_option maxRecDepth 100000 in
theorem d_Plan_weigh_61 : Dc m_Plan_weigh 61 (.getfield 18) 3 64 := ⟨by decide +kernel, rfl⟩
set_option maxRecDepth 100000 in
theorem d_Plan_weigh_64 : Dc m_Plan_weigh 64 (.iload 8) 2 66 := ⟨by decide +kernel, rfl⟩
set_option maxRecDepth 100000 in
theorem d_Plan_weigh_66 : Dc m_Plan_weigh 66 .iadd 1 67 := ⟨by decide +kernel, rfl⟩
set_option maxRecDepth 100000 in
theorem d_Plan_weigh_67 : Dc m_Plan_weigh 67 (.putfield 18) 3 70 := ⟨by decide +kernel, rfl⟩
set_option maxRecDepth 100000 in
theorem d_Plan_weigh_70 : Dc m_Plan_weigh 70 (.aload_n 0) 1 71 := ⟨by decide +kernel, rfl⟩
set_option maxRecDepth 100000 in
theorem d_Plan_weigh_71 : Dc m_Plan_weigh 71 (.getfield 9) 3 74 := ⟨by decide +kernel, rfl⟩
set_option maxRecDepth 100000 in
theorem d_Plan_weigh_74 : Dc m_Plan_weigh 74 (.iload 4) 2 76 := ⟨by decide +kernel, rfl⟩
set_option maxRecDepth 100000 in
theorem d_Plan_weigh_76 : Dc m_Plan_weigh 76 (.iload 6) 2 78 := ⟨by decide +kernel, rfl⟩
set_option maxRecDepth 100000 in
theorem d_Plan_weigh_78 : Dc m_Plan_weigh 78 (.iload 5) 2 80 := ⟨by decide +kernel, rfl⟩
set_option maxRecDepth 100000 in
theorem d_Plan_weigh_80 : Dc m_Plan_weigh 80 (.iload_n 2) 1 81 := ⟨by decide +kernel, rfl⟩
set_option maxRecDepth 100000 in
theorem d_Plan_weigh_81 : Dc m_Plan_weigh 81 (.iload_n 3) 1 82 := ⟨by decide +kernel, rfl⟩
set_option maxRecDepth 100000 in
theorem d_Plan_weigh_82 : Dc m_Plan_weigh 82 (.invokestatic 40) 3 85 := ⟨by decide +kernel, rfl⟩
set_option maxRecDepth 100000 in
theorem d_Plan_weigh_85 : Dc m_Plan_weigh 85 (.iload 8) 2 87 := ⟨by decide +kernel, rfl⟩
set_option maxRecDepth 100000 in
theorem d_Plan_weigh_87 : Dc m_Plan_weigh 87 .isub 1 88 := ⟨by decide +kernel, rfl⟩
set_option maxRecDepth 100000 in
theorem d_Plan_weigh_88 : Dc m_Plan_weigh 88 .iastore 1 89 := ⟨by decide +kernel, rfl⟩
set_option maxRecDepth 100000 in
theorem d_Plan_weigh_89 : Dc m_Plan_weigh 89 (.aload_n 0) 1 90 := ⟨by decide +kernel, rfl⟩
set_option maxRecDepth 100000 in
theorem d_Plan_weigh_90 : Dc m_Plan_weigh 90 (.getfield 15) 3 93 := ⟨by decide +kernel, rfl⟩
set_option maxRecDepth 100000 in
theorem d_Plan_weigh_93 : Dc m_Plan_weigh 93 (.iload 4) 2 95 := ⟨by decide +kernel, rfl⟩
set_option maxRecDepth 100000 in
theorem d_Plan_weigh_95 : Dc m_Plan_weigh 95 (.iload 7) 2 97 := ⟨by decide +kernel, rfl⟩
set_option maxRecDepth 100000 in
theorem d_Plan_weigh_97 : Dc m_Plan_weigh 97 (.iload 5) 2 99 := ⟨by decide +kernel, rfl⟩
set_option maxRecDepth 100000 in
theorem d_Plan_weigh_99 : Dc m_Plan_weigh 99 (.iload_n 2) 1 100 := ⟨by decide +kernel, rfl⟩
set_option maxRecDepth 100000 in
theorem d_Plan_weigh_100 : Dc m_Plan_weigh 100 (.iload_n 3) 1 101 := ⟨by decide +kernel, rfl⟩
set_option maxRecDepth 100000 in
theorem d_Plan_weigh_101 : Dc m_Plan_weigh 101 (.invokestatic 40) 3 104 := ⟨by decide +kernel, rfl⟩
set_option maxRecDepth 100000 in
theorem d_Plan_weigh_104 : Dc m_Plan_weigh 104 (.iload 8) 2 106 := ⟨by decide +kernel, rfl⟩
set_option maxRecDepth 100000 in
theorem d_Plan_weigh_106 : Dc m_Plan_weigh 106 .isub 1 107 := ⟨by decide +kernel, rfl⟩
set_option maxRecDepth 100000 in
theorem d_Plan_weigh_107 : Dc m_Plan_weigh 107 .iastore 1 108 := ⟨by decide +kernel, rfl⟩
set_option maxRecDepth 100000 in
theorem d_Plan_weigh_108 : Dc m_Plan_weigh 108 (.iinc 4 (1)) 3 111 := ⟨by decide +kernel, rfl⟩
set_option maxRecDepth 100000 in
theorem d_Plan_weigh_111 : Dj m_Plan_weigh 111 .goto 114 8 := ⟨-103, by decide +kernel, rfl, by decide⟩
set_option maxRecDepth 100000 in
theorem d_Plan_weigh_114 : Dc m_Plan_weigh 114 .return_ 1 115 := ⟨by decide +kernel, rfl⟩
set_option maxRecDepth 100000 in
theorem d_Plan_chooseOne_0 : Dc m_Plan_chooseOne 0 (.aload_n 0) 1 1 := ⟨by decide +kernel, rfl⟩
set_option maxRecDepth 100000 in
theorem d_Plan_chooseOne_1 : Dc m_Plan_chooseOne 1 (.iconst (-1)) 1 2 := ⟨by decide +kernel, rfl⟩
set_option maxRecDepth 100000 in
theorem d_Plan_chooseOne_2 : Dc m_Plan_chooseOne 2 (.putfield 22) 3 5 := ⟨by decide +kernel, rfl⟩
set_option maxRecDepth 100000 in
theorem d_Plan_chooseOne_5 : Dc m_Plan_chooseOne 5 (.iconst 0) 1 6 := ⟨by decide +kernel, rfl⟩
set_option maxRecDepth 100000 in
theorem d_Plan_chooseOne_6 : Dc m_Plan_chooseOne 6 (.istore_n 1) 1 7 := ⟨by decide +kernel, rfl⟩
set_option maxRecDepth 100000 in
theorem d_Plan_chooseOne_7 : Dc m_Plan_chooseOne 7 (.iload_n 1) 1 8 := ⟨by decide +kernel, rfl⟩
set_option maxRecDepth 100000 in
theorem d_Plan_chooseOne_8 : Dc m_Plan_chooseOne 8 (.bipush (36)) 2 10 := ⟨by decide +kernel, rfl⟩
set_option maxRecDepth 100000 in
theorem d_Plan_chooseOne_10 : Dj m_Plan_chooseOne 10 (.if_icmp .ge) 13 30 := ⟨20, by decide +kernel, rfl, by decide⟩
set_option maxRecDepth 100000 in
theorem d_Plan_chooseOne_13 : Dc m_Plan_chooseOne 13 (.aload_n 0) 1 14 := ⟨by decide +kernel, rfl⟩
set_option maxRecDepth 100000 in
theorem d_Plan_chooseOne_14 : Dc m_Plan_chooseOne 14 (.iload_n 1) 1 15 := ⟨by decide +kernel, rfl⟩
set_option maxRecDepth 100000 in
theorem d_Plan_chooseOne_15 : Dc m_Plan_chooseOne 15 (.aload_n 0) 1 16 := ⟨by decide +kernel, rfl⟩
set_option maxRecDepth 100000 in
theorem d_Plan_chooseOne_16 : Dc m_Plan_chooseOne 16 (.getfield 9) 3 19 := ⟨by decide +kernel, rfl⟩
set_option maxRecDepth 100000 in
theorem d_Plan_chooseOne_19 : Dc m_Plan_chooseOne 19 (.iload_n 1) 1 20 := ⟨by decide +kernel, rfl⟩
set_option maxRecDepth 100000 in
theorem d_Plan_chooseOne_20 : Dc m_Plan_chooseOne 20 .iaload 1 21 := ⟨by decide +kernel, rfl⟩
set_option maxRecDepth 100000 in
theorem d_Plan_chooseOne_21 : Dc m_Plan_chooseOne 21 (.invokevirtual 44) 3 24 := ⟨by decide +kernel, rfl⟩
set_option maxRecDepth 100000 in
theorem d_Plan_chooseOne_24 : Dc m_Plan_chooseOne 24 (.iinc 1 (1)) 3 27 := ⟨by decide +kernel, rfl⟩
set_option maxRecDepth 100000 in
theorem d_Plan_chooseOne_27 : Dj m_Plan_chooseOne 27 .goto 30 7 := ⟨-20, by decide +kernel, rfl, by decide⟩
set_option maxRecDepth 100000 in
theorem d_Plan_chooseOne_30 : Dc m_Plan_chooseOne 30 .return_ 1 31 := ⟨by decide +kernel, rfl⟩
set_option maxRecDepth 100000 in
theorem d_Plan_chooseTwo_0 : Dc m_Plan_chooseTwo 0 (.aload_n 0) 1 1 := ⟨by decide +kernel, rfl⟩
set_option maxRecDepth 100000 in
theorem d_Plan_chooseTwo_1 : Dc m_Plan_chooseTwo 1 (.iconst (-1)) 1 2 := ⟨by decide +kernel, rfl⟩
set_option maxRecDepth 100000 in
theorem d_Plan_chooseTwo_2 : Dc m_Plan_chooseTwo 2 (.putfield 22) 3 5 := ⟨by decide +kernel, rfl⟩
set_option maxRecDepth 100000 in
theorem d_Plan_chooseTwo_5 : Dc m_Plan_chooseTwo 5 (.iconst 0) 1 6 := ⟨by decide +kernel, rfl⟩
set_option maxRecDepth 100000 in
theorem d_Plan_chooseTwo_6 : Dc m_Plan_chooseTwo 6 (.istore_n 1) 1 7 := ⟨by decide +kernel, rfl⟩
set_option maxRecDepth 100000 in
theorem d_Plan_chooseTwo_7 : Dc m_Plan_chooseTwo 7 (.iload_n 1) 1 8 := ⟨by decide +kernel, rfl⟩
set_option maxRecDepth 100000 in
theorem d_Plan_chooseTwo_8 : Dc m_Plan_chooseTwo 8 (.bipush (36)) 2 10 := ⟨by decide +kernel, rfl⟩
set_option maxRecDepth 100000 in
theorem d_Plan_chooseTwo_10 : Dj m_Plan_chooseTwo 10 (.if_icmp .ge) 13 64 := ⟨54, by decide +kernel, rfl, by decide⟩
set_option maxRecDepth 100000 in
theorem d_Plan_chooseTwo_13 : Dc m_Plan_chooseTwo 13 (.aload_n 0) 1 14 := ⟨by decide +kernel, rfl⟩
set_option maxRecDepth 100000 in
theorem d_Plan_chooseTwo_14 : Dc m_Plan_chooseTwo 14 (.iload_n 1) 1 15 := ⟨by decide +kernel, rfl⟩
set_option maxRecDepth 100000 in
theorem d_Plan_chooseTwo_15 : Dc m_Plan_chooseTwo 15 (.aload_n 0) 1 16 := ⟨by decide +kernel, rfl⟩
set_option maxRecDepth 100000 in
theorem d_Plan_chooseTwo_16 : Dc m_Plan_chooseTwo 16 (.getfield 15) 3 19 := ⟨by decide +kernel, rfl⟩
set_option maxRecDepth 100000 in
theorem d_Plan_chooseTwo_19 : Dc m_Plan_chooseTwo 19 (.iload_n 1) 1 20 := ⟨by decide +kernel, rfl⟩
set_option maxRecDepth 100000 in
theorem d_Plan_chooseTwo_20 : Dc m_Plan_chooseTwo 20 .iaload 1 21 := ⟨by decide +kernel, rfl⟩
set_option maxRecDepth 100000 in
theorem d_Plan_chooseTwo_21 : Dc m_Plan_chooseTwo 21 (.invokevirtual 44) 3 24 := ⟨by decide +kernel, rfl⟩
set_option maxRecDepth 100000 in
theorem d_Plan_chooseTwo_24 : Dc m_Plan_chooseTwo 24 (.iload_n 1) 1 25 := ⟨by decide +kernel, rfl⟩
set_option maxRecDepth 100000 in
theorem d_Plan_chooseTwo_25 : Dc m_Plan_chooseTwo 25 (.iconst 1) 1 26 := ⟨by decide +kernel, rfl⟩
set_option maxRecDepth 100000 in
theorem d_Plan_chooseTwo_26 : Dc m_Plan_chooseTwo 26 .iadd 1 27 := ⟨by decide +kernel, rfl⟩
set_option maxRecDepth 100000 in
theorem d_Plan_chooseTwo_27 : Dc m_Plan_chooseTwo 27 (.istore_n 2) 1 28 := ⟨by decide +kernel, rfl⟩
set_option maxRecDepth 100000 in
theorem d_Plan_chooseTwo_28 : Dc m_Plan_chooseTwo 28 (.iload_n 2) 1 29 := ⟨by decide +kernel, rfl⟩
set_option maxRecDepth 100000 in
theorem d_Plan_chooseTwo_29 : Dc m_Plan_chooseTwo 29 (.bipush (36)) 2 31 := ⟨by decide +kernel, rfl⟩
set_option maxRecDepth 100000 in
theorem d_Plan_chooseTwo_31 : Dj m_Plan_chooseTwo 31 (.if_icmp .ge) 34 58 := ⟨27, by decide +kernel, rfl, by decide⟩
set_option maxRecDepth 100000 in
theorem d_Plan_chooseTwo_34 : Dc m_Plan_chooseTwo 34 (.aload_n 0) 1 35 := ⟨by decide +kernel, rfl⟩
set_option maxRecDepth 100000 in
theorem d_Plan_chooseTwo_35 : Dc m_Plan_chooseTwo 35 (.iload_n 1) 1 36 := ⟨by decide +kernel, rfl⟩
set_option maxRecDepth 100000 in
theorem d_Plan_chooseTwo_36 : Dc m_Plan_chooseTwo 36 (.aload_n 0) 1 37 := ⟨by decide +kernel, rfl⟩
set_option maxRecDepth 100000 in
theorem d_Plan_chooseTwo_37 : Dc m_Plan_chooseTwo 37 (.getfield 9) 3 40 := ⟨by decide +kernel, rfl⟩
set_option maxRecDepth 100000 in
theorem d_Plan_chooseTwo_40 : Dc m_Plan_chooseTwo 40 (.iload_n 1) 1 41 := ⟨by decide +kernel, rfl⟩
set_option maxRecDepth 100000 in
theorem d_Plan_chooseTwo_41 : Dc m_Plan_chooseTwo 41 .iaload 1 42 := ⟨by decide +kernel, rfl⟩
set_option maxRecDepth 100000 in
theorem d_Plan_chooseTwo_42 : Dc m_Plan_chooseTwo 42 (.aload_n 0) 1 43 := ⟨by decide +kernel, rfl⟩
set_option maxRecDepth 100000 in
theorem d_Plan_chooseTwo_43 : Dc m_Plan_chooseTwo 43 (.getfield 9) 3 46 := ⟨by decide +kernel, rfl⟩
set_option maxRecDepth 100000 in
theorem d_Plan_chooseTwo_46 : Dc m_Plan_chooseTwo 46 (.iload_n 2) 1 47 := ⟨by decide +kernel, rfl⟩
set_option maxRecDepth 100000 in
theorem d_Plan_chooseTwo_47 : Dc m_Plan_chooseTwo 47 .iaload 1 48 := ⟨by decide +kernel, rfl⟩
set_option maxRecDepth 100000 in
theorem d_Plan_chooseTwo_48 : Dc m_Plan_chooseTwo 48 .iadd 1 49 := ⟨by decide +kernel, rfl⟩
set_option maxRecDepth 100000 in
theorem d_Plan_chooseTwo_49 : Dc m_Plan_chooseTwo 49 (.invokevirtual 44) 3 52 := ⟨by decide +kernel, rfl⟩
set_option maxRecDepth 100000 in
theorem d_Plan_chooseTwo_52 : Dc m_Plan_chooseTwo 52 (.iinc 2 (1)) 3 55 := ⟨by decide +kernel, rfl⟩
set_option maxRecDepth 100000 in
theorem d_Plan_chooseTwo_55 : Dj m_Plan_chooseTwo 55 .goto 58 28 := ⟨-27, by decide +kernel, rfl, by decide⟩
set_option maxRecDepth 100000 in
theorem d_Plan_chooseTwo_58 : Dc m_Plan_chooseTwo 58 (.iinc 1 (1)) 3 61 := ⟨by decide +kernel, rfl⟩
set_option maxRecDepth 100000 in
theorem d_Plan_chooseTwo_61 : Dj m_Plan_chooseTwo 61 .goto 64 7 := ⟨-54, by decide +kernel, rfl, by decide⟩
set_option maxRecDepth 100000 in
theorem d_Plan_chooseTwo_64 : Dc m_Plan_chooseTwo 64 .return_ 1 65 := ⟨by decide +kernel, rfl⟩
set_option maxRecDepth 100000 in
theorem d_Plan_offer_0 : Dc m_Plan_offer 0 (.iload_n 2) 1 1 := ⟨by decide +kernel, rfl⟩
set_option maxRecDepth 100000 in
theorem d_Plan_offer_1 : Dc m_Plan_offer 1 (.aload_n 0) 1 2 := ⟨by decide +kernel, rfl⟩
set_option maxRecDepth 100000 in
theorem d_Plan_offer_2 : Dc m_Plan_offer 2 (.getfield 22) 3 5 := ⟨by decide +kernel, rfl⟩
set_option maxRecDepth 100000 in
theorem d_Plan_offer_5 : Dj m_Plan_offer 5 (.if_icmp .le) 8 18 := ⟨13, by decide +kernel, rfl, by decide⟩
set_option maxRecDepth 100000 in
theorem d_Plan_offer_8 : Dc m_Plan_offer 8 (.aload_n 0) 1 9 := ⟨by decide +kernel, rfl⟩
set_option maxRecDepth 100000 in
theorem d_Plan_offer_9 : Dc m_Plan_offer 9 (.iload_n 2) 1 10 := ⟨by decide +kernel, rfl⟩
set_option maxRecDepth 100000 in
theorem d_Plan_offer_10 : Dc m_Plan_offer 10 (.putfield 22) 3 13 := ⟨by decide +kernel, rfl⟩
set_option maxRecDepth 100000 in
theorem d_Plan_offer_13 : Dc m_Plan_offer 13 (.aload_n 0) 1 14 := ⟨by decide +kernel, rfl⟩
set_option maxRecDepth 100000 in
theorem d_Plan_offer_14 : Dc m_Plan_offer 14 (.iload_n 1) 1 15 := ⟨by decide +kernel, rfl⟩
set_option maxRecDepth 100000 in
theorem d_Plan_offer_15 : Dc m_Plan_offer 15 (.putfield 25) 3 18 := ⟨by decide +kernel, rfl⟩
set_option maxRecDepth 100000 in
theorem d_Plan_offer_18 : Dc m_Plan_offer 18 .return_ 1 19 := ⟨by decide +kernel, rfl⟩
set_option maxRecDepth 100000 in
theorem d_Rows_init_0 : Dc m_Rows_init 0 (.aload_n 0) 1 1 := ⟨by decide +kernel, rfl⟩
set_option maxRecDepth 100000 in
theorem d_Rows_init_1 : Dc m_Rows_init 1 (.invokespecial 3) 3 4 := ⟨by decide +kernel, rfl⟩
set_option maxRecDepth 100000 in
theorem d_Rows_init_4 : Dc m_Rows_init 4 (.aload_n 0) 1 5 := ⟨by decide +kernel, rfl⟩
set_option maxRecDepth 100000 in
theorem d_Rows_init_5 : Dc m_Rows_init 5 (.bipush (36)) 2 7 := ⟨by decide +kernel, rfl⟩
set_option maxRecDepth 100000 in
theorem d_Rows_init_7 : Dc m_Rows_init 7 (.newarray .int) 2 9 := ⟨by decide +kernel, rfl⟩
set_option maxRecDepth 100000 in
theorem d_Rows_init_9 : Dc m_Rows_init 9 (.putfield 9) 3 12 := ⟨by decide +kernel, rfl⟩
set_option maxRecDepth 100000 in
theorem d_Rows_init_12 : Dc m_Rows_init 12 (.aload_n 0) 1 13 := ⟨by decide +kernel, rfl⟩
set_option maxRecDepth 100000 in
theorem d_Rows_init_13 : Dc m_Rows_init 13 (.iconst 0) 1 14 := ⟨by decide +kernel, rfl⟩
set_option maxRecDepth 100000 in
theorem d_Rows_init_14 : Dc m_Rows_init 14 (.putfield 15) 3 17 := ⟨by decide +kernel, rfl⟩
set_option maxRecDepth 100000 in
theorem d_Rows_init_17 : Dc m_Rows_init 17 .return_ 1 18 := ⟨by decide +kernel, rfl⟩
set_option maxRecDepth 100000 in
theorem d_Rows_append_0 : Dc m_Rows_append 0 (.aload_n 0) 1 1 := ⟨by decide +kernel, rfl⟩
set_option maxRecDepth 100000 in
theorem d_Rows_append_1 : Dc m_Rows_append 1 (.getfield 15) 3 4 := ⟨by decide +kernel, rfl⟩
set_option maxRecDepth 100000 in
theorem d_Rows_append_4 : Dc m_Rows_append 4 (.bipush (12)) 2 6 := ⟨by decide +kernel, rfl⟩
set_option maxRecDepth 100000 in
theorem d_Rows_append_6 : Dj m_Rows_append 6 (.if_icmp .lt) 9 10 := ⟨4, by decide +kernel, rfl, by decide⟩
set_option maxRecDepth 100000 in
theorem d_Rows_append_9 : Dc m_Rows_append 9 .return_ 1 10 := ⟨by decide +kernel, rfl⟩
set_option maxRecDepth 100000 in
theorem d_Rows_append_10 : Dc m_Rows_append 10 (.aload_n 0) 1 11 := ⟨by decide +kernel, rfl⟩
set_option maxRecDepth 100000 in
theorem d_Rows_append_11 : Dc m_Rows_append 11 (.getfield 9) 3 14 := ⟨by decide +kernel, rfl⟩
set_option maxRecDepth 100000 in
theorem d_Rows_append_14 : Dc m_Rows_append 14 (.iconst 3) 1 15 := ⟨by decide +kernel, rfl⟩
set_option maxRecDepth 100000 in
theorem d_Rows_append_15 : Dc m_Rows_append 15 (.aload_n 0) 1 16 := ⟨by decide +kernel, rfl⟩
set_option maxRecDepth 100000 in
theorem d_Rows_append_16 : Dc m_Rows_append 16 (.getfield 15) 3 19 := ⟨by decide +kernel, rfl⟩
set_option maxRecDepth 100000 in
theorem d_Rows_append_19 : Dc m_Rows_append 19 .imul 1 20 := ⟨by decide +kernel, rfl⟩
set_option maxRecDepth 100000 in
theorem d_Rows_append_20 : Dc m_Rows_append 20 (.iload_n 1) 1 21 := ⟨by decide +kernel, rfl⟩
set_option maxRecDepth 100000 in
theorem d_Rows_append_21 : Dc m_Rows_append 21 .iastore 1 22 := ⟨by decide +kernel, rfl⟩
set_option maxRecDepth 100000 in
theorem d_Rows_append_22 : Dc m_Rows_append 22 (.aload_n 0) 1 23 := ⟨by decide +kernel, rfl⟩
set_option maxRecDepth 100000 in
theorem d_Rows_append_23 : Dc m_Rows_append 23 (.getfield 9) 3 26 := ⟨by decide +kernel, rfl⟩
set_option maxRecDepth 100000 in
theorem d_Rows_append_26 : Dc m_Rows_append 26 (.iconst 3) 1 27 := ⟨by decide +kernel, rfl⟩
set_option maxRecDepth 100000 in
theorem d_Rows_append_27 : Dc m_Rows_append 27 (.aload_n 0) 1 28 := ⟨by decide +kernel, rfl⟩
set_option maxRecDepth 100000 in
theorem d_Rows_append_28 : Dc m_Rows_append 28 (.getfield 15) 3 31 := ⟨by decide +kernel, rfl⟩
set_option maxRecDepth 100000 in
theorem d_Rows_append_31 : Dc m_Rows_append 31 .imul 1 32 := ⟨by decide +kernel, rfl⟩
set_option maxRecDepth 100000 in
theorem d_Rows_append_32 : Dc m_Rows_append 32 (.iconst 1) 1 33 := ⟨by decide +kernel, rfl⟩
set_option maxRecDepth 100000 in
theorem d_Rows_append_33 : Dc m_Rows_append 33 .iadd 1 34 := ⟨by decide +kernel, rfl⟩
set_option maxRecDepth 100000 in
theorem d_Rows_append_34 : Dc m_Rows_append 34 (.iload_n 2) 1 35 := ⟨by decide +kernel, rfl⟩
set_option maxRecDepth 100000 in
theorem d_Rows_append_35 : Dc m_Rows_append 35 .iastore 1 36 := ⟨by decide +kernel, rfl⟩
set_option maxRecDepth 100000 in
theorem d_Rows_append_36 : Dc m_Rows_append 36 (.aload_n 0) 1 37 := ⟨by decide +kernel, rfl⟩
set_option maxRecDepth 100000 in
theorem d_Rows_append_37 : Dc m_Rows_append 37 (.getfield 9) 3 40 := ⟨by decide +kernel, rfl⟩
set_option maxRecDepth 100000 in
theorem d_Rows_append_40 : Dc m_Rows_append 40 (.iconst 3) 1 41 := ⟨by decide +kernel, rfl⟩
set_option maxRecDepth 100000 in
theorem d_Rows_append_41 : Dc m_Rows_append 41 (.aload_n 0) 1 42 := ⟨by decide +kernel, rfl⟩
set_option maxRecDepth 100000 in
theorem d_Rows_append_42 : Dc m_Rows_append 42 (.getfield 15) 3 45 := ⟨by decide +kernel, rfl⟩
set_option maxRecDepth 100000 in
theorem d_Rows_append_45 : Dc m_Rows_append 45 .imul 1 46 := ⟨by decide +kernel, rfl⟩
set_option maxRecDepth 100000 in
theorem d_Rows_append_46 : Dc m_Rows_append 46 (.iconst 2) 1 47 := ⟨by decide +kernel, rfl⟩
set_option maxRecDepth 100000 in
theorem d_Rows_append_47 : Dc m_Rows_append 47 .iadd 1 48 := ⟨by decide +kernel, rfl⟩
set_option maxRecDepth 100000 in
theorem d_Rows_append_48 : Dc m_Rows_append 48 (.iload_n 3) 1 49 := ⟨by decide +kernel, rfl⟩
set_option maxRecDepth 100000 in
theorem d_Rows_append_49 : Dc m_Rows_append 49 .iastore 1 50 := ⟨by decide +kernel, rfl⟩
set_option maxRecDepth 100000 in
theorem d_Rows_append_50 : Dc m_Rows_append 50 (.aload_n 0) 1 51 := ⟨by decide +kernel, rfl⟩
set_option maxRecDepth 100000 in
theorem d_Rows_append_51 : Dc m_Rows_append 51 .dup 1 52 := ⟨by decide +kernel, rfl⟩
set_option maxRecDepth 100000 in
theorem d_Rows_append_52 : Dc m_Rows_append 52 (.getfield 15) 3 55 := ⟨by decide +kernel, rfl⟩
set_option maxRecDepth 100000 in
theorem d_Rows_append_55 : Dc m_Rows_append 55 (.iconst 1) 1 56 := ⟨by decide +kernel, rfl⟩
set_option maxRecDepth 100000 in
theorem d_Rows_append_56 : Dc m_Rows_append 56 .iadd 1 57 := ⟨by decide +kernel, rfl⟩
set_option maxRecDepth 100000 in
theorem d_Rows_append_57 : Dc m_Rows_append 57 (.putfield 15) 3 60 := ⟨by decide +kernel, rfl⟩
set_option maxRecDepth 100000 in
theorem d_Rows_append_60 : Dc m_Rows_append 60 .return_ 1 61 := ⟨by decide +kernel, rfl⟩
set_option maxRecDepth 100000 in
theorem d_Rows_placeOf_0 : Dc m_Rows_placeOf 0 (.iload_n 1) 1 1 := ⟨by decide +kernel, rfl⟩
set_option maxRecDepth 100000 in
theorem d_Rows_placeOf_1 : Dj m_Rows_placeOf 1 (.ifCond .lt) 4 20 := ⟨19, by decide +kernel, rfl, by decide⟩
set_option maxRecDepth 100000 in
theorem d_Rows_placeOf_4 : Dc m_Rows_placeOf 4 (.iload_n 1) 1 5 := ⟨by decide +kernel, rfl⟩
set_option maxRecDepth 100000 in
theorem d_Rows_placeOf_5 : Dc m_Rows_placeOf 5 (.aload_n 0) 1 6 := ⟨by decide +kernel, rfl⟩
set_option maxRecDepth 100000 in
theorem d_Rows_placeOf_6 : Dc m_Rows_placeOf 6 (.getfield 15) 3 9 := ⟨by decide +kernel, rfl⟩
set_option maxRecDepth 100000 in
theorem d_Rows_placeOf_9 : Dj m_Rows_placeOf 9 (.if_icmp .ge) 12 20 := ⟨11, by decide +kernel, rfl, by decide⟩
set_option maxRecDepth 100000 in
theorem d_Rows_placeOf_12 : Dc m_Rows_placeOf 12 (.iload_n 2) 1 13 := ⟨by decide +kernel, rfl⟩
set_option maxRecDepth 100000 in
theorem d_Rows_placeOf_13 : Dc m_Rows_placeOf 13 (.iconst 2) 1 14 := ⟨by decide +kernel, rfl⟩
set_option maxRecDepth 100000 in
theorem d_Rows_placeOf_14 : Dc m_Rows_placeOf 14 (.invokestatic 19) 3 17 := ⟨by decide +kernel, rfl⟩
set_option maxRecDepth 100000 in
theorem d_Rows_placeOf_17 : Dj m_Rows_placeOf 17 (.ifCond .ne) 20 25 := ⟨8, by decide +kernel, rfl, by decide⟩
set_option maxRecDepth 100000 in
theorem d_Rows_placeOf_20 : Dc m_Rows_placeOf 20 (.bipush (-9)) 2 22 := ⟨by decide +kernel, rfl⟩
set_option maxRecDepth 100000 in
theorem d_Rows_placeOf_22 : Dj m_Rows_placeOf 22 .goto 25 30 := ⟨8, by decide +kernel, rfl, by decide⟩
set_option maxRecDepth 100000 in
theorem d_Rows_placeOf_25 : Dc m_Rows_placeOf 25 (.iconst 3) 1 26 := ⟨by decide +kernel, rfl⟩
set_option maxRecDepth 100000 in
theorem d_Rows_placeOf_26 : Dc m_Rows_placeOf 26 (.iload_n 1) 1 27 := ⟨by decide +kernel, rfl⟩
set_option maxRecDepth 100000 in
theorem d_Rows_placeOf_27 : Dc m_Rows_placeOf 27 .imul 1 28 := ⟨by decide +kernel, rfl⟩
set_option maxRecDepth 100000 in
theorem d_Rows_placeOf_28 : Dc m_Rows_placeOf 28 (.iload_n 2) 1 29 := ⟨by decide +kernel, rfl⟩
set_option maxRecDepth 100000 in
theorem d_Rows_placeOf_29 : Dc m_Rows_placeOf 29 .iadd 1 30 := ⟨by decide +kernel, rfl⟩
set_option maxRecDepth 100000 in
theorem d_Rows_placeOf_30 : Dc m_Rows_placeOf 30 .ireturn 1 31 := ⟨by decide +kernel, rfl⟩
set_option maxRecDepth 100000 in
theorem d_Rows_isSameAt_0 : Dc m_Rows_isSameAt 0 (.iload_n 1) 1 1 := ⟨by decide +kernel, rfl⟩
set_option maxRecDepth 100000 in
theorem d_Rows_isSameAt_1 : Dj m_Rows_isSameAt 1 (.ifCond .lt) 4 20 := ⟨19, by decide +kernel, rfl, by decide⟩
set_option maxRecDepth 100000 in
theorem d_Rows_isSameAt_4 : Dc m_Rows_isSameAt 4 (.iload_n 1) 1 5 := ⟨by decide +kernel, rfl⟩
set_option maxRecDepth 100000 in
theorem d_Rows_isSameAt_5 : Dc m_Rows_isSameAt 5 (.aload_n 0) 1 6 := ⟨by decide +kernel, rfl⟩
set_option maxRecDepth 100000 in
theorem d_Rows_isSameAt_6 : Dc m_Rows_isSameAt 6 (.getfield 15) 3 9 := ⟨by decide +kernel, rfl⟩
set_option maxRecDepth 100000 in
theorem d_Rows_isSameAt_9 : Dj m_Rows_isSameAt 9 (.if_icmp .ge) 12 20 := ⟨11, by decide +kernel, rfl, by decide⟩
set_option maxRecDepth 100000 in
theorem d_Rows_isSameAt_12 : Dc m_Rows_isSameAt 12 (.iload_n 1) 1 13 := ⟨by decide +kernel, rfl⟩
set_option maxRecDepth 100000 in
theorem d_Rows_isSameAt_13 : Dc m_Rows_isSameAt 13 (.aload_n 2) 1 14 := ⟨by decide +kernel, rfl⟩
set_option maxRecDepth 100000 in
theorem d_Rows_isSameAt_14 : Dc m_Rows_isSameAt 14 (.getfield 15) 3 17 := ⟨by decide +kernel, rfl⟩
set_option maxRecDepth 100000 in
theorem d_Rows_isSameAt_17 : Dj m_Rows_isSameAt 17 (.if_icmp .lt) 20 22 := ⟨5, by decide +kernel, rfl, by decide⟩
set_option maxRecDepth 100000 in
theorem d_Rows_isSameAt_20 : Dc m_Rows_isSameAt 20 (.iconst 0) 1 21 := ⟨by decide +kernel, rfl⟩
set_option maxRecDepth 100000 in
theorem d_Rows_isSameAt_21 : Dc m_Rows_isSameAt 21 .ireturn 1 22 := ⟨by decide +kernel, rfl⟩
set_option maxRecDepth 100000 in
theorem d_Rows_isSameAt_22 : Dc m_Rows_isSameAt 22 (.iconst 3) 1 23 := ⟨by decide +kernel, rfl⟩
set_option maxRecDepth 100000 in
theorem d_Rows_isSameAt_23 : Dc m_Rows_isSameAt 23 (.iload_n 1) 1 24 := ⟨by decide +kernel, rfl⟩
set_option maxRecDepth 100000 in
theorem d_Rows_isSameAt_24 : Dc m_Rows_isSameAt 24 .imul 1 25 := ⟨by decide +kernel, rfl⟩
set_option maxRecDepth 100000 in
theorem d_Rows_isSameAt_25 : Dc m_Rows_isSameAt 25 (.istore_n 3) 1 26 := ⟨by decide +kernel, rfl⟩
set_option maxRecDepth 100000 in
theorem d_Rows_isSameAt_26 : Dc m_Rows_isSameAt 26 (.iload_n 3) 1 27 := ⟨by decide +kernel, rfl⟩
set_option maxRecDepth 100000 in
theorem d_Rows_isSameAt_27 : Dc m_Rows_isSameAt 27 (.iconst 3) 1 28 := ⟨by decide +kernel, rfl⟩
set_option maxRecDepth 100000 in
theorem d_Rows_isSameAt_28 : Dc m_Rows_isSameAt 28 (.iload_n 1) 1 29 := ⟨by decide +kernel, rfl⟩
set_option maxRecDepth 100000 in
theorem d_Rows_isSameAt_29 : Dc m_Rows_isSameAt 29 .imul 1 30 := ⟨by decide +kernel, rfl⟩
set_option maxRecDepth 100000 in
theorem d_Rows_isSameAt_30 : Dc m_Rows_isSameAt 30 (.iconst 3) 1 31 := ⟨by decide +kernel, rfl⟩
set_option maxRecDepth 100000 in
theorem d_Rows_isSameAt_31 : Dc m_Rows_isSameAt 31 .iadd 1 32 := ⟨by decide +kernel, rfl⟩
set_option maxRecDepth 100000 in
theorem d_Rows_isSameAt_32 : Dj m_Rows_isSameAt 32 (.if_icmp .ge) 35 58 := ⟨26, by decide +kernel, rfl, by decide⟩
set_option maxRecDepth 100000 in
theorem d_Rows_isSameAt_35 : Dc m_Rows_isSameAt 35 (.aload_n 0) 1 36 := ⟨by decide +kernel, rfl⟩
set_option maxRecDepth 100000 in
theorem d_Rows_isSameAt_36 : Dc m_Rows_isSameAt 36 (.getfield 9) 3 39 := ⟨by decide +kernel, rfl⟩
set_option maxRecDepth 100000 in
theorem d_Rows_isSameAt_39 : Dc m_Rows_isSameAt 39 (.iload_n 3) 1 40 := ⟨by decide +kernel, rfl⟩
set_option maxRecDepth 100000 in
theorem d_Rows_isSameAt_40 : Dc m_Rows_isSameAt 40 .iaload 1 41 := ⟨by decide +kernel, rfl⟩
set_option maxRecDepth 100000 in
theorem d_Rows_isSameAt_41 : Dc m_Rows_isSameAt 41 (.aload_n 2) 1 42 := ⟨by decide +kernel, rfl⟩
set_option maxRecDepth 100000 in
theorem d_Rows_isSameAt_42 : Dc m_Rows_isSameAt 42 (.getfield 9) 3 45 := ⟨by decide +kernel, rfl⟩
set_option maxRecDepth 100000 in
theorem d_Rows_isSameAt_45 : Dc m_Rows_isSameAt 45 (.iload_n 3) 1 46 := ⟨by decide +kernel, rfl⟩
set_option maxRecDepth 100000 in
theorem d_Rows_isSameAt_46 : Dc m_Rows_isSameAt 46 .iaload 1 47 := ⟨by decide +kernel, rfl⟩
set_option maxRecDepth 100000 in
theorem d_Rows_isSameAt_47 : Dj m_Rows_isSameAt 47 (.if_icmp .eq) 50 52 := ⟨5, by decide +kernel, rfl, by decide⟩
set_option maxRecDepth 100000 in
theorem d_Rows_isSameAt_50 : Dc m_Rows_isSameAt 50 (.iconst 0) 1 51 := ⟨by decide +kernel, rfl⟩
set_option maxRecDepth 100000 in
theorem d_Rows_isSameAt_51 : Dc m_Rows_isSameAt 51 .ireturn 1 52 := ⟨by decide +kernel, rfl⟩
set_option maxRecDepth 100000 in
theorem d_Rows_isSameAt_52 : Dc m_Rows_isSameAt 52 (.iinc 3 (1)) 3 55 := ⟨by decide +kernel, rfl⟩
set_option maxRecDepth 100000 in
theorem d_Rows_isSameAt_55 : Dj m_Rows_isSameAt 55 .goto 58 26 := ⟨-29, by decide +kernel, rfl, by decide⟩
set_option maxRecDepth 100000 in
theorem d_Rows_isSameAt_58 : Dc m_Rows_isSameAt 58 (.iconst 1) 1 59 := ⟨by decide +kernel, rfl⟩
set_option maxRecDepth 100000 in
theorem d_Rows_isSameAt_59 : Dc m_Rows_isSameAt 59 .ireturn 1 60 := ⟨by decide +kernel, rfl⟩
set_option maxRecDepth 100000 in
theorem d_School_init_0 : Dc m_School_init 0 (.aload_n 0) 1 1 := ⟨by decide +kernel, rfl⟩
set_option maxRecDepth 100000 in
theorem d_School_init_1 : Dc m_School_init 1 (.invokespecial 3) 3 4 := ⟨by decide +kernel, rfl⟩
set_option maxRecDepth 100000 in
theorem d_School_init_4 : Dc m_School_init 4 (.aload_n 0) 1 5 := ⟨by decide +kernel, rfl⟩
set_option maxRecDepth 100000 in
theorem d_School_init_5 : Dc m_School_init 5 (.iconst 4) 1 6 := ⟨by decide +kernel, rfl⟩
set_option maxRecDepth 100000 in
theorem d_School_init_6 : Dc m_School_init 6 (.anewarray 9) 3 9 := ⟨by decide +kernel, rfl⟩
set_option maxRecDepth 100000 in
theorem d_School_init_9 : Dc m_School_init 9 (.putfield 11) 3 12 := ⟨by decide +kernel, rfl⟩
set_option maxRecDepth 100000 in
theorem d_School_init_12 : Dc m_School_init 12 (.aload_n 0) 1 13 := ⟨by decide +kernel, rfl⟩
set_option maxRecDepth 100000 in
theorem d_School_init_13 : Dc m_School_init 13 (.iconst 0) 1 14 := ⟨by decide +kernel, rfl⟩
set_option maxRecDepth 100000 in
theorem d_School_init_14 : Dc m_School_init 14 (.putfield 17) 3 17 := ⟨by decide +kernel, rfl⟩
set_option maxRecDepth 100000 in
theorem d_School_init_17 : Dc m_School_init 17 (.aload_n 0) 1 18 := ⟨by decide +kernel, rfl⟩
set_option maxRecDepth 100000 in
theorem d_School_init_18 : Dc m_School_init 18 (.iconst 3) 1 19 := ⟨by decide +kernel, rfl⟩
set_option maxRecDepth 100000 in
theorem d_School_init_19 : Dc m_School_init 19 (.newarray .int) 2 21 := ⟨by decide +kernel, rfl⟩
set_option maxRecDepth 100000 in
theorem d_School_init_21 : Dc m_School_init 21 .dup 1 22 := ⟨by decide +kernel, rfl⟩
set_option maxRecDepth 100000 in
theorem d_School_init_22 : Dc m_School_init 22 (.iconst 0) 1 23 := ⟨by decide +kernel, rfl⟩
set_option maxRecDepth 100000 in
theorem d_School_init_23 : Dc m_School_init 23 (.bipush (10)) 2 25 := ⟨by decide +kernel, rfl⟩
set_option maxRecDepth 100000 in
theorem d_School_init_25 : Dc m_School_init 25 .iastore 1 26 := ⟨by decide +kernel, rfl⟩
set_option maxRecDepth 100000 in
theorem d_School_init_26 : Dc m_School_init 26 .dup 1 27 := ⟨by decide +kernel, rfl⟩
set_option maxRecDepth 100000 in
theorem d_School_init_27 : Dc m_School_init 27 (.iconst 1) 1 28 := ⟨by decide +kernel, rfl⟩
set_option maxRecDepth 100000 in
theorem d_School_init_28 : Dc m_School_init 28 (.bipush (40)) 2 30 := ⟨by decide +kernel, rfl⟩
set_option maxRecDepth 100000 in
theorem d_School_init_30 : Dc m_School_init 30 .iastore 1 31 := ⟨by decide +kernel, rfl⟩
set_option maxRecDepth 100000 in
theorem d_School_init_31 : Dc m_School_init 31 .dup 1 32 := ⟨by decide +kernel, rfl⟩
set_option maxRecDepth 100000 in
theorem d_School_init_32 : Dc m_School_init 32 (.iconst 2) 1 33 := ⟨by decide +kernel, rfl⟩
set_option maxRecDepth 100000 in
theorem d_School_init_33 : Dc m_School_init 33 (.bipush (30)) 2 35 := ⟨by decide +kernel, rfl⟩
set_option maxRecDepth 100000 in
theorem d_School_init_35 : Dc m_School_init 35 .iastore 1 36 := ⟨by decide +kernel, rfl⟩
set_option maxRecDepth 100000 in
theorem d_School_init_36 : Dc m_School_init 36 (.putfield 21) 3 39 := ⟨by decide +kernel, rfl⟩
set_option maxRecDepth 100000 in
theorem d_School_init_39 : Dc m_School_init 39 (.aload_n 0) 1 40 := ⟨by decide +kernel, rfl⟩
set_option maxRecDepth 100000 in
theorem d_School_init_40 : Dc m_School_init 40 (.iconst 0) 1 41 := ⟨by decide +kernel, rfl⟩
set_option maxRecDepth 100000 in
theorem d_School_init_41 : Dc m_School_init 41 (.putfield 25) 3 44 := ⟨by decide +kernel, rfl⟩
set_option maxRecDepth 100000 in
theorem d_School_init_44 : Dc m_School_init 44 (.aload_n 0) 1 45 := ⟨by decide +kernel, rfl⟩
set_option maxRecDepth 100000 in
theorem d_School_init_45 : Dc m_School_init 45 (.iconst 1) 1 46 := ⟨by decide +kernel, rfl⟩
set_option maxRecDepth 100000 in
theorem d_School_init_46 : Dc m_School_init 46 (.putfield 28) 3 49 := ⟨by decide +kernel, rfl⟩
set_option maxRecDepth 100000 in
theorem d_School_init_49 : Dc m_School_init 49 (.aload_n 0) 1 50 := ⟨by decide +kernel, rfl⟩
set_option maxRecDepth 100000 in
theorem d_School_init_50 : Dc m_School_init 50 (.new 31) 3 53 := ⟨by decide +kernel, rfl⟩
set_option maxRecDepth 100000 in
theorem d_School_init_53 : Dc m_School_init 53 .dup 1 54 := ⟨by decide +kernel, rfl⟩
set_option maxRecDepth 100000 in
theorem d_School_init_54 : Dc m_School_init 54 (.invokespecial 33) 3 57 := ⟨by decide +kernel, rfl⟩
set_option maxRecDepth 100000 in
theorem d_School_init_57 : Dc m_School_init 57 (.putfield 34) 3 60 := ⟨by decide +kernel, rfl⟩
set_option maxRecDepth 100000 in
theorem d_School_init_60 : Dc m_School_init 60 (.iconst 0) 1 61 := ⟨by decide +kernel, rfl⟩
set_option maxRecDepth 100000 in
theorem d_School_init_61 : Dc m_School_init 61 (.istore_n 1) 1 62 := ⟨by decide +kernel, rfl⟩
set_option maxRecDepth 100000 in
theorem d_School_init_62 : Dc m_School_init 62 (.iload_n 1) 1 63 := ⟨by decide +kernel, rfl⟩
set_option maxRecDepth 100000 in
theorem d_School_init_63 : Dc m_School_init 63 (.iconst 4) 1 64 := ⟨by decide +kernel, rfl⟩
set_option maxRecDepth 100000 in
theorem d_School_init_64 : Dj m_School_init 64 (.if_icmp .ge) 67 86 := ⟨22, by decide +kernel, rfl, by decide⟩
set_option maxRecDepth 100000 in
theorem d_School_init_67 : Dc m_School_init 67 (.aload_n 0) 1 68 := ⟨by decide +kernel, rfl⟩
set_option maxRecDepth 100000 in
theorem d_School_init_68 : Dc m_School_init 68 (.getfield 11) 3 71 := ⟨by decide +kernel, rfl⟩
set_option maxRecDepth 100000 in
theorem d_School_init_71 : Dc m_School_init 71 (.iload_n 1) 1 72 := ⟨by decide +kernel, rfl⟩
set_option maxRecDepth 100000 in
theorem d_School_init_72 : Dc m_School_init 72 (.new 9) 3 75 := ⟨by decide +kernel, rfl⟩
set_option maxRecDepth 100000 in
theorem d_School_init_75 : Dc m_School_init 75 .dup 1 76 := ⟨by decide +kernel, rfl⟩
set_option maxRecDepth 100000 in
theorem d_School_init_76 : Dc m_School_init 76 (.invokespecial 38) 3 79 := ⟨by decide +kernel, rfl⟩
set_option maxRecDepth 100000 in
theorem d_School_init_79 : Dc m_School_init 79 .aastore 1 80 := ⟨by decide +kernel, rfl⟩
set_option maxRecDepth 100000 in
theorem d_School_init_80 : Dc m_School_init 80 (.iinc 1 (1)) 3 83 := ⟨by decide +kernel, rfl⟩
set_option maxRecDepth 100000 in
theorem d_School_init_83 : Dj m_School_init 83 .goto 86 62 := ⟨-21, by decide +kernel, rfl, by decide⟩
set_option maxRecDepth 100000 in
theorem d_School_init_86 : Dc m_School_init 86 .return_ 1 87 := ⟨by decide +kernel, rfl⟩
set_option maxRecDepth 100000 in
theorem d_School_learnerAt_0 : Dc m_School_learnerAt 0 (.iload_n 1) 1 1 := ⟨by decide +kernel, rfl⟩
set_option maxRecDepth 100000 in
theorem d_School_learnerAt_1 : Dj m_School_learnerAt 1 (.ifCond .lt) 4 12 := ⟨11, by decide +kernel, rfl, by decide⟩
set_option maxRecDepth 100000 in
theorem d_School_learnerAt_4 : Dc m_School_learnerAt 4 (.iload_n 1) 1 5 := ⟨by decide +kernel, rfl⟩
set_option maxRecDepth 100000 in
theorem d_School_learnerAt_5 : Dc m_School_learnerAt 5 (.aload_n 0) 1 6 := ⟨by decide +kernel, rfl⟩
set_option maxRecDepth 100000 in
theorem d_School_learnerAt_6 : Dc m_School_learnerAt 6 (.getfield 17) 3 9 := ⟨by decide +kernel, rfl⟩
set_option maxRecDepth 100000 in
theorem d_School_learnerAt_9 : Dj m_School_learnerAt 9 (.if_icmp .lt) 12 16 := ⟨7, by decide +kernel, rfl, by decide⟩
set_option maxRecDepth 100000 in
theorem d_School_learnerAt_12 : Dc m_School_learnerAt 12 .aconst_null 1 13 := ⟨by decide +kernel, rfl⟩
set_option maxRecDepth 100000 in
theorem d_School_learnerAt_13 : Dj m_School_learnerAt 13 .goto 16 22 := ⟨9, by decide +kernel, rfl, by decide⟩
set_option maxRecDepth 100000 in
theorem d_School_learnerAt_16 : Dc m_School_learnerAt 16 (.aload_n 0) 1 17 := ⟨by decide +kernel, rfl⟩
set_option maxRecDepth 100000 in
theorem d_School_learnerAt_17 : Dc m_School_learnerAt 17 (.getfield 11) 3 20 := ⟨by decide +kernel, rfl⟩
set_option maxRecDepth 100000 in
theorem d_School_learnerAt_20 : Dc m_School_learnerAt 20 (.iload_n 1) 1 21 := ⟨by decide +kernel, rfl⟩
set_option maxRecDepth 100000 in
theorem d_School_learnerAt_21 : Dc m_School_learnerAt 21 .aaload 1 22 := ⟨by decide +kernel, rfl⟩
set_option maxRecDepth 100000 in
theorem d_School_learnerAt_22 : Dc m_School_learnerAt 22 .areturn 1 23 := ⟨by decide +kernel, rfl⟩
set_option maxRecDepth 100000 in
theorem d_School_admit_0 : Dc m_School_admit 0 (.aload_n 0) 1 1 := ⟨by decide +kernel, rfl⟩
set_option maxRecDepth 100000 in
theorem d_School_admit_1 : Dc m_School_admit 1 (.getfield 17) 3 4 := ⟨by decide +kernel, rfl⟩
set_option maxRecDepth 100000 in
theorem d_School_admit_4 : Dc m_School_admit 4 (.istore_n 3) 1 5 := ⟨by decide +kernel, rfl⟩
set_option maxRecDepth 100000 in
theorem d_School_admit_5 : Dc m_School_admit 5 (.aload_n 0) 1 6 := ⟨by decide +kernel, rfl⟩
set_option maxRecDepth 100000 in
theorem d_School_admit_6 : Dc m_School_admit 6 (.getfield 11) 3 9 := ⟨by decide +kernel, rfl⟩
set_option maxRecDepth 100000 in
theorem d_School_admit_9 : Dc m_School_admit 9 (.iload_n 3) 1 10 := ⟨by decide +kernel, rfl⟩
set_option maxRecDepth 100000 in
theorem d_School_admit_10 : Dc m_School_admit 10 .aaload 1 11 := ⟨by decide +kernel, rfl⟩
set_option maxRecDepth 100000 in
theorem d_School_admit_11 : Dc m_School_admit 11 (.iload_n 1) 1 12 := ⟨by decide +kernel, rfl⟩
set_option maxRecDepth 100000 in
theorem d_School_admit_12 : Dc m_School_admit 12 (.iload_n 2) 1 13 := ⟨by decide +kernel, rfl⟩
set_option maxRecDepth 100000 in
theorem d_School_admit_13 : Dc m_School_admit 13 (.invokevirtual 39) 3 16 := ⟨by decide +kernel, rfl⟩
set_option maxRecDepth 100000 in
theorem d_School_admit_16 : Dc m_School_admit 16 (.aload_n 0) 1 17 := ⟨by decide +kernel, rfl⟩
set_option maxRecDepth 100000 in
theorem d_School_admit_17 : Dc m_School_admit 17 .dup 1 18 := ⟨by decide +kernel, rfl⟩
set_option maxRecDepth 100000 in
theorem d_School_admit_18 : Dc m_School_admit 18 (.getfield 17) 3 21 := ⟨by decide +kernel, rfl⟩
set_option maxRecDepth 100000 in
theorem d_School_admit_21 : Dc m_School_admit 21 (.iconst 1) 1 22 := ⟨by decide +kernel, rfl⟩
set_option maxRecDepth 100000 in
theorem d_School_admit_22 : Dc m_School_admit 22 .iadd 1 23 := ⟨by decide +kernel, rfl⟩
set_option maxRecDepth 100000 in
theorem d_School_admit_23 : Dc m_School_admit 23 (.putfield 17) 3 26 := ⟨by decide +kernel, rfl⟩
set_option maxRecDepth 100000 in
theorem d_School_admit_26 : Dc m_School_admit 26 (.iload_n 3) 1 27 := ⟨by decide +kernel, rfl⟩
set_option maxRecDepth 100000 in
theorem d_School_admit_27 : Dc m_School_admit 27 .ireturn 1 28 := ⟨by decide +kernel, rfl⟩
set_option maxRecDepth 100000 in
theorem d_School_rest_0 : Dc m_School_rest 0 (.iconst 0) 1 1 := ⟨by decide +kernel, rfl⟩
set_option maxRecDepth 100000 in
theorem d_School_rest_1 : Dc m_School_rest 1 (.istore_n 2) 1 2 := ⟨by decide +kernel, rfl⟩
set_option maxRecDepth 100000 in
theorem d_School_rest_2 : Dc m_School_rest 2 (.iload_n 2) 1 3 := ⟨by decide +kernel, rfl⟩
set_option maxRecDepth 100000 in
theorem d_School_rest_3 : Dc m_School_rest 3 (.aload_n 0) 1 4 := ⟨by decide +kernel, rfl⟩
set_option maxRecDepth 100000 in
theorem d_School_rest_4 : Dc m_School_rest 4 (.getfield 17) 3 7 := ⟨by decide +kernel, rfl⟩
set_option maxRecDepth 100000 in
theorem d_School_rest_7 : Dj m_School_rest 7 (.if_icmp .ge) 10 32 := ⟨25, by decide +kernel, rfl, by decide⟩
set_option maxRecDepth 100000 in
theorem d_School_rest_10 : Dc m_School_rest 10 (.aload_n 0) 1 11 := ⟨by decide +kernel, rfl⟩
set_option maxRecDepth 100000 in
theorem d_School_rest_11 : Dc m_School_rest 11 (.getfield 11) 3 14 := ⟨by decide +kernel, rfl⟩
set_option maxRecDepth 100000 in
theorem d_School_rest_14 : Dc m_School_rest 14 (.iload_n 2) 1 15 := ⟨by decide +kernel, rfl⟩
set_option maxRecDepth 100000 in
theorem d_School_rest_15 : Dc m_School_rest 15 .aaload 1 16 := ⟨by decide +kernel, rfl⟩
set_option maxRecDepth 100000 in
theorem d_School_rest_16 : Dc m_School_rest 16 (.iload_n 1) 1 17 := ⟨by decide +kernel, rfl⟩
set_option maxRecDepth 100000 in
theorem d_School_rest_17 : Dc m_School_rest 17 (.aload_n 0) 1 18 := ⟨by decide +kernel, rfl⟩
set_option maxRecDepth 100000 in
theorem d_School_rest_18 : Dc m_School_rest 18 (.getfield 21) 3 21 := ⟨by decide +kernel, rfl⟩
set_option maxRecDepth 100000 in
theorem d_School_rest_21 : Dc m_School_rest 21 (.iconst 0) 1 22 := ⟨by decide +kernel, rfl⟩
set_option maxRecDepth 100000 in
theorem d_School_rest_22 : Dc m_School_rest 22 .iaload 1 23 := ⟨by decide +kernel, rfl⟩
set_option maxRecDepth 100000 in
theorem d_School_rest_23 : Dc m_School_rest 23 (.invokevirtual 43) 3 26 := ⟨by decide +kernel, rfl⟩
set_option maxRecDepth 100000 in
theorem d_School_rest_26 : Dc m_School_rest 26 (.iinc 2 (1)) 3 29 := ⟨by decide +kernel, rfl⟩
set_option maxRecDepth 100000 in
theorem d_School_rest_29 : Dj m_School_rest 29 .goto 32 2 := ⟨-27, by decide +kernel, rfl, by decide⟩
set_option maxRecDepth 100000 in
theorem d_School_rest_32 : Dc m_School_rest 32 (.aload_n 0) 1 33 := ⟨by decide +kernel, rfl⟩
set_option maxRecDepth 100000 in
theorem d_School_rest_33 : Dc m_School_rest 33 .dup 1 34 := ⟨by decide +kernel, rfl⟩
set_option maxRecDepth 100000 in
theorem d_School_rest_34 : Dc m_School_rest 34 (.getfield 25) 3 37 := ⟨by decide +kernel, rfl⟩
set_option maxRecDepth 100000 in
theorem d_School_rest_37 : Dc m_School_rest 37 (.iload_n 1) 1 38 := ⟨by decide +kernel, rfl⟩
set_option maxRecDepth 100000 in
theorem d_School_rest_38 : Dc m_School_rest 38 .iadd 1 39 := ⟨by decide +kernel, rfl⟩
set_option maxRecDepth 100000 in
theorem d_School_rest_39 : Dc m_School_rest 39 (.putfield 25) 3 42 := ⟨by decide +kernel, rfl⟩
set_option maxRecDepth 100000 in
theorem d_School_rest_42 : Dc m_School_rest 42 .return_ 1 43 := ⟨by decide +kernel, rfl⟩
set_option maxRecDepth 100000 in
theorem d_School_copyFrom_0 : Dc m_School_copyFrom 0 (.aload_n 0) 1 1 := ⟨by decide +kernel, rfl⟩
set_option maxRecDepth 100000 in
theorem d_School_copyFrom_1 : Dc m_School_copyFrom 1 (.aload_n 1) 1 2 := ⟨by decide +kernel, rfl⟩
set_option maxRecDepth 100000 in
theorem d_School_copyFrom_2 : Dc m_School_copyFrom 2 (.getfield 17) 3 5 := ⟨by decide +kernel, rfl⟩
set_option maxRecDepth 100000 in
theorem d_School_copyFrom_5 : Dc m_School_copyFrom 5 (.putfield 17) 3 8 := ⟨by decide +kernel, rfl⟩
set_option maxRecDepth 100000 in
theorem d_School_copyFrom_8 : Dc m_School_copyFrom 8 (.iconst 0) 1 9 := ⟨by decide +kernel, rfl⟩
set_option maxRecDepth 100000 in
theorem d_School_copyFrom_9 : Dc m_School_copyFrom 9 (.istore_n 2) 1 10 := ⟨by decide +kernel, rfl⟩
set_option maxRecDepth 100000 in
theorem d_School_copyFrom_10 : Dc m_School_copyFrom 10 (.iload_n 2) 1 11 := ⟨by decide +kernel, rfl⟩
set_option maxRecDepth 100000 in
theorem d_School_copyFrom_11 : Dc m_School_copyFrom 11 (.aload_n 0) 1 12 := ⟨by decide +kernel, rfl⟩
set_option maxRecDepth 100000 in
theorem d_School_copyFrom_12 : Dc m_School_copyFrom 12 (.getfield 17) 3 15 := ⟨by decide +kernel, rfl⟩
set_option maxRecDepth 100000 in
theorem d_School_copyFrom_15 : Dj m_School_copyFrom 15 (.if_icmp .ge) 18 39 := ⟨24, by decide +kernel, rfl, by decide⟩
set_option maxRecDepth 100000 in
theorem d_School_copyFrom_18 : Dc m_School_copyFrom 18 (.aload_n 0) 1 19 := ⟨by decide +kernel, rfl⟩
set_option maxRecDepth 100000 in
theorem d_School_copyFrom_19 : Dc m_School_copyFrom 19 (.getfield 11) 3 22 := ⟨by decide +kernel, rfl⟩
set_option maxRecDepth 100000 in
theorem d_School_copyFrom_22 : Dc m_School_copyFrom 22 (.iload_n 2) 1 23 := ⟨by decide +kernel, rfl⟩
set_option maxRecDepth 100000 in
theorem d_School_copyFrom_23 : Dc m_School_copyFrom 23 .aaload 1 24 := ⟨by decide +kernel, rfl⟩
set_option maxRecDepth 100000 in
theorem d_School_copyFrom_24 : Dc m_School_copyFrom 24 (.aload_n 1) 1 25 := ⟨by decide +kernel, rfl⟩
set_option maxRecDepth 100000 in
theorem d_School_copyFrom_25 : Dc m_School_copyFrom 25 (.getfield 11) 3 28 := ⟨by decide +kernel, rfl⟩
set_option maxRecDepth 100000 in
theorem d_School_copyFrom_28 : Dc m_School_copyFrom 28 (.iload_n 2) 1 29 := ⟨by decide +kernel, rfl⟩
set_option maxRecDepth 100000 in
theorem d_School_copyFrom_29 : Dc m_School_copyFrom 29 .aaload 1 30 := ⟨by decide +kernel, rfl⟩
set_option maxRecDepth 100000 in
theorem d_School_copyFrom_30 : Dc m_School_copyFrom 30 (.invokevirtual 46) 3 33 := ⟨by decide +kernel, rfl⟩
set_option maxRecDepth 100000 in
theorem d_School_copyFrom_33 : Dc m_School_copyFrom 33 (.iinc 2 (1)) 3 36 := ⟨by decide +kernel, rfl⟩
set_option maxRecDepth 100000 in
theorem d_School_copyFrom_36 : Dj m_School_copyFrom 36 .goto 39 10 := ⟨-26, by decide +kernel, rfl, by decide⟩
set_option maxRecDepth 100000 in
theorem d_School_copyFrom_39 : Dc m_School_copyFrom 39 (.aload_n 1) 1 40 := ⟨by decide +kernel, rfl⟩
set_option maxRecDepth 100000 in
theorem d_School_copyFrom_40 : Dc m_School_copyFrom 40 (.getfield 21) 3 43 := ⟨by decide +kernel, rfl⟩
set_option maxRecDepth 100000 in
theorem d_School_copyFrom_43 : Dc m_School_copyFrom 43 (.iconst 0) 1 44 := ⟨by decide +kernel, rfl⟩
set_option maxRecDepth 100000 in
theorem d_School_copyFrom_44 : Dc m_School_copyFrom 44 (.aload_n 0) 1 45 := ⟨by decide +kernel, rfl⟩
set_option maxRecDepth 100000 in
theorem d_School_copyFrom_45 : Dc m_School_copyFrom 45 (.getfield 21) 3 48 := ⟨by decide +kernel, rfl⟩
set_option maxRecDepth 100000 in
theorem d_School_copyFrom_48 : Dc m_School_copyFrom 48 (.iconst 0) 1 49 := ⟨by decide +kernel, rfl⟩
set_option maxRecDepth 100000 in
theorem d_School_copyFrom_49 : Dc m_School_copyFrom 49 (.iconst 3) 1 50 := ⟨by decide +kernel, rfl⟩
set_option maxRecDepth 100000 in
theorem d_School_copyFrom_50 : Dc m_School_copyFrom 50 (.invokestatic 50) 3 53 := ⟨by decide +kernel, rfl⟩
set_option maxRecDepth 100000 in
theorem d_School_copyFrom_53 : Dc m_School_copyFrom 53 (.aload_n 0) 1 54 := ⟨by decide +kernel, rfl⟩
set_option maxRecDepth 100000 in
theorem d_School_copyFrom_54 : Dc m_School_copyFrom 54 (.aload_n 1) 1 55 := ⟨by decide +kernel, rfl⟩
set_option maxRecDepth 100000 in
theorem d_School_copyFrom_55 : Dc m_School_copyFrom 55 (.getfield 25) 3 58 := ⟨by decide +kernel, rfl⟩
set_option maxRecDepth 100000 in
theorem d_School_copyFrom_58 : Dc m_School_copyFrom 58 (.putfield 25) 3 61 := ⟨by decide +kernel, rfl⟩
set_option maxRecDepth 100000 in
theorem d_School_copyFrom_61 : Dc m_School_copyFrom 61 (.aload_n 0) 1 62 := ⟨by decide +kernel, rfl⟩
set_option maxRecDepth 100000 in
theorem d_School_copyFrom_62 : Dc m_School_copyFrom 62 (.aload_n 1) 1 63 := ⟨by decide +kernel, rfl⟩
set_option maxRecDepth 100000 in
theorem d_School_copyFrom_63 : Dc m_School_copyFrom 63 (.getfield 28) 3 66 := ⟨by decide +kernel, rfl⟩
set_option maxRecDepth 100000 in
theorem d_School_copyFrom_66 : Dc m_School_copyFrom 66 (.putfield 28) 3 69 := ⟨by decide +kernel, rfl⟩
set_option maxRecDepth 100000 in
theorem d_School_copyFrom_69 : Dc m_School_copyFrom 69 (.aload_n 0) 1 70 := ⟨by decide +kernel, rfl⟩
set_option maxRecDepth 100000 in
theorem d_School_copyFrom_70 : Dc m_School_copyFrom 70 (.getfield 34) 3 73 := ⟨by decide +kernel, rfl⟩
set_option maxRecDepth 100000 in
theorem d_School_copyFrom_73 : Dc m_School_copyFrom 73 (.aload_n 1) 1 74 := ⟨by decide +kernel, rfl⟩
set_option maxRecDepth 100000 in
theorem d_School_copyFrom_74 : Dc m_School_copyFrom 74 (.getfield 34) 3 77 := ⟨by decide +kernel, rfl⟩
set_option maxRecDepth 100000 in
theorem d_School_copyFrom_77 : Dc m_School_copyFrom 77 (.invokevirtual 56) 3 80 := ⟨by decide +kernel, rfl⟩
set_option maxRecDepth 100000 in
theorem d_School_copyFrom_80 : Dc m_School_copyFrom 80 .return_ 1 81 := ⟨by decide +kernel, rfl⟩
set_option maxRecDepth 100000 in
theorem d_Sheet_init_0 : Dc m_Sheet_init 0 (.aload_n 0) 1 1 := ⟨by decide +kernel, rfl⟩
set_option maxRecDepth 100000 in
theorem d_Sheet_init_1 : Dc m_Sheet_init 1 (.invokespecial 3) 3 4 := ⟨by decide +kernel, rfl⟩
set_option maxRecDepth 100000 in
theorem d_Sheet_init_4 : Dc m_Sheet_init 4 (.aload_n 0) 1 5 := ⟨by decide +kernel, rfl⟩
set_option maxRecDepth 100000 in
theorem d_Sheet_init_5 : Dc m_Sheet_init 5 (.iconst (-1)) 1 6 := ⟨by decide +kernel, rfl⟩
set_option maxRecDepth 100000 in
theorem d_Sheet_init_6 : Dc m_Sheet_init 6 (.putfield 9) 3 9 := ⟨by decide +kernel, rfl⟩
set_option maxRecDepth 100000 in
theorem d_Sheet_init_9 : Dc m_Sheet_init 9 (.aload_n 0) 1 10 := ⟨by decide +kernel, rfl⟩
set_option maxRecDepth 100000 in
theorem d_Sheet_init_10 : Dc m_Sheet_init 10 (.iconst 0) 1 11 := ⟨by decide +kernel, rfl⟩
set_option maxRecDepth 100000 in
theorem d_Sheet_init_11 : Dc m_Sheet_init 11 (.putfield 15) 3 14 := ⟨by decide +kernel, rfl⟩
set_option maxRecDepth 100000 in
theorem d_Sheet_init_14 : Dc m_Sheet_init 14 (.aload_n 0) 1 15 := ⟨by decide +kernel, rfl⟩
set_option maxRecDepth 100000 in
theorem d_Sheet_init_15 : Dc m_Sheet_init 15 (.bipush (40)) 2 17 := ⟨by decide +kernel, rfl⟩
set_option maxRecDepth 100000 in
theorem d_Sheet_init_17 : Dc m_Sheet_init 17 (.newarray .long) 2 19 := ⟨by decide +kernel, rfl⟩
set_option maxRecDepth 100000 in
theorem d_Sheet_init_19 : Dc m_Sheet_init 19 (.putfield 18) 3 22 := ⟨by decide +kernel, rfl⟩
set_option maxRecDepth 100000 in
theorem d_Sheet_init_22 : Dc m_Sheet_init 22 .return_ 1 23 := ⟨by decide +kernel, rfl⟩
set_option maxRecDepth 100000 in
theorem d_Sheet_isMissing_0 : Dc m_Sheet_isMissing 0 (.aload_n 0) 1 1 := ⟨by decide +kernel, rfl⟩
set_option maxRecDepth 100000 in
theorem d_Sheet_isMissing_1 : Dc m_Sheet_isMissing 1 (.getfield 9) 3 4 := ⟨by decide +kernel, rfl⟩
set_option maxRecDepth 100000 in
theorem d_Sheet_isMissing_4 : Dc m_Sheet_isMissing 4 (.iconst (-1)) 1 5 := ⟨by decide +kernel, rfl⟩
set_option maxRecDepth 100000 in
theorem d_Sheet_isMissing_5 : Dj m_Sheet_isMissing 5 (.if_icmp .ne) 8 12 := ⟨7, by decide +kernel, rfl, by decide⟩
set_option maxRecDepth 100000 in
theorem d_Sheet_isMissing_8 : Dc m_Sheet_isMissing 8 (.iconst 1) 1 9 := ⟨by decide +kernel, rfl⟩
set_option maxRecDepth 100000 in
theorem d_Sheet_isMissing_9 : Dj m_Sheet_isMissing 9 .goto 12 13 := ⟨4, by decide +kernel, rfl, by decide⟩
set_option maxRecDepth 100000 in
theorem d_Sheet_isMissing_12 : Dc m_Sheet_isMissing 12 (.iconst 0) 1 13 := ⟨by decide +kernel, rfl⟩
set_option maxRecDepth 100000 in
theorem d_Sheet_isMissing_13 : Dc m_Sheet_isMissing 13 .ireturn 1 14 := ⟨by decide +kernel, rfl⟩
set_option maxRecDepth 100000 in
theorem d_Sheet_lose_0 : Dc m_Sheet_lose 0 (.aload_n 0) 1 1 := ⟨by decide +kernel, rfl⟩
set_option maxRecDepth 100000 in
theorem d_Sheet_lose_1 : Dc m_Sheet_lose 1 (.iconst (-1)) 1 2 := ⟨by decide +kernel, rfl⟩
set_option maxRecDepth 100000 in
theorem d_Sheet_lose_2 : Dc m_Sheet_lose 2 (.putfield 9) 3 5 := ⟨by decide +kernel, rfl⟩
set_option maxRecDepth 100000 in
theorem d_Sheet_lose_5 : Dc m_Sheet_lose 5 (.aload_n 0) 1 6 := ⟨by decide +kernel, rfl⟩
set_option maxRecDepth 100000 in
theorem d_Sheet_lose_6 : Dc m_Sheet_lose 6 (.iconst 0) 1 7 := ⟨by decide +kernel, rfl⟩
set_option maxRecDepth 100000 in
theorem d_Sheet_lose_7 : Dc m_Sheet_lose 7 (.putfield 15) 3 10 := ⟨by decide +kernel, rfl⟩
set_option maxRecDepth 100000 in
theorem d_Sheet_lose_10 : Dc m_Sheet_lose 10 .return_ 1 11 := ⟨by decide +kernel, rfl⟩
set_option maxRecDepth 100000 in
theorem d_Sheet_become_0 : Dc m_Sheet_become 0 (.aload_n 0) 1 1 := ⟨by decide +kernel, rfl⟩
set_option maxRecDepth 100000 in
theorem d_Sheet_become_1 : Dc m_Sheet_become 1 (.iload_n 1) 1 2 := ⟨by decide +kernel, rfl⟩
set_option maxRecDepth 100000 in
theorem d_Sheet_become_2 : Dc m_Sheet_become 2 (.putfield 9) 3 5 := ⟨by decide +kernel, rfl⟩
set_option maxRecDepth 100000 in
theorem d_Sheet_become_5 : Dc m_Sheet_become 5 (.aload_n 0) 1 6 := ⟨by decide +kernel, rfl⟩
set_option maxRecDepth 100000 in
theorem d_Sheet_become_6 : Dc m_Sheet_become 6 (.iload_n 2) 1 7 := ⟨by decide +kernel, rfl⟩
set_option maxRecDepth 100000 in
theorem d_Sheet_become_7 : Dc m_Sheet_become 7 (.putfield 15) 3 10 := ⟨by decide +kernel, rfl⟩
set_option maxRecDepth 100000 in
theorem d_Sheet_become_10 : Dc m_Sheet_become 10 (.iconst 0) 1 11 := ⟨by decide +kernel, rfl⟩
set_option maxRecDepth 100000 in
theorem d_Sheet_become_11 : Dc m_Sheet_become 11 (.istore_n 3) 1 12 := ⟨by decide +kernel, rfl⟩
set_option maxRecDepth 100000 in
theorem d_Sheet_become_12 : Dc m_Sheet_become 12 (.iload_n 3) 1 13 := ⟨by decide +kernel, rfl⟩
set_option maxRecDepth 100000 in
theorem d_Sheet_become_13 : Dc m_Sheet_become 13 (.bipush (40)) 2 15 := ⟨by decide +kernel, rfl⟩
set_option maxRecDepth 100000 in
theorem d_Sheet_become_15 : Dj m_Sheet_become 15 (.if_icmp .ge) 18 31 := ⟨16, by decide +kernel, rfl, by decide⟩
set_option maxRecDepth 100000 in
theorem d_Sheet_become_18 : Dc m_Sheet_become 18 (.aload_n 0) 1 19 := ⟨by decide +kernel, rfl⟩
set_option maxRecDepth 100000 in
theorem d_Sheet_become_19 : Dc m_Sheet_become 19 (.getfield 18) 3 22 := ⟨by decide +kernel, rfl⟩
set_option maxRecDepth 100000 in
theorem d_Sheet_become_22 : Dc m_Sheet_become 22 (.iload_n 3) 1 23 := ⟨by decide +kernel, rfl⟩
set_option maxRecDepth 100000 in
theorem d_Sheet_become_23 : Dc m_Sheet_become 23 (.lconst 0) 1 24 := ⟨by decide +kernel, rfl⟩
set_option maxRecDepth 100000 in
theorem d_Sheet_become_24 : Dc m_Sheet_become 24 .lastore 1 25 := ⟨by decide +kernel, rfl⟩
set_option maxRecDepth 100000 in
theorem d_Sheet_become_25 : Dc m_Sheet_become 25 (.iinc 3 (1)) 3 28 := ⟨by decide +kernel, rfl⟩
set_option maxRecDepth 100000 in
theorem d_Sheet_become_28 : Dj m_Sheet_become 28 .goto 31 12 := ⟨-16, by decide +kernel, rfl, by decide⟩
set_option maxRecDepth 100000 in
theorem d_Sheet_become_31 : Dc m_Sheet_become 31 .return_ 1 32 := ⟨by decide +kernel, rfl⟩
set_option maxRecDepth 100000 in
theorem d_Sheet_narrowed_0 : Dc m_Sheet_narrowed 0 (.aload_n 0) 1 1 := ⟨by decide +kernel, rfl⟩
set_option maxRecDepth 100000 in
theorem d_Sheet_narrowed_1 : Dc m_Sheet_narrowed 1 (.getfield 9) 3 4 := ⟨by decide +kernel, rfl⟩
set_option maxRecDepth 100000 in
theorem d_Sheet_narrowed_4 : Dj m_Sheet_narrowed 4 (.ifCond .ne) 7 11 := ⟨7, by decide +kernel, rfl, by decide⟩
set_option maxRecDepth 100000 in
theorem d_Sheet_narrowed_7 : Dc m_Sheet_narrowed 7 (.iload_n 1) 1 8 := ⟨by decide +kernel, rfl⟩
set_option maxRecDepth 100000 in
theorem d_Sheet_narrowed_8 : Dc m_Sheet_narrowed 8 .i2b 1 9 := ⟨by decide +kernel, rfl⟩
set_option maxRecDepth 100000 in
theorem d_Sheet_narrowed_9 : Dc m_Sheet_narrowed 9 .i2l 1 10 := ⟨by decide +kernel, rfl⟩
set_option maxRecDepth 100000 in
theorem d_Sheet_narrowed_10 : Dc m_Sheet_narrowed 10 .lreturn 1 11 := ⟨by decide +kernel, rfl⟩
set_option maxRecDepth 100000 in
theorem d_Sheet_narrowed_11 : Dc m_Sheet_narrowed 11 (.aload_n 0) 1 12 := ⟨by decide +kernel, rfl⟩
set_option maxRecDepth 100000 in
theorem d_Sheet_narrowed_12 : Dc m_Sheet_narrowed 12 (.getfield 9) 3 15 := ⟨by decide +kernel, rfl⟩
set_option maxRecDepth 100000 in
theorem d_Sheet_narrowed_15 : Dc m_Sheet_narrowed 15 (.iconst 1) 1 16 := ⟨by decide +kernel, rfl⟩
set_option maxRecDepth 100000 in
theorem d_Sheet_narrowed_16 : Dj m_Sheet_narrowed 16 (.if_icmp .ne) 19 23 := ⟨7, by decide +kernel, rfl, by decide⟩
set_option maxRecDepth 100000 in
theorem d_Sheet_narrowed_19 : Dc m_Sheet_narrowed 19 (.iload_n 1) 1 20 := ⟨by decide +kernel, rfl⟩
set_option maxRecDepth 100000 in
theorem d_Sheet_narrowed_20 : Dc m_Sheet_narrowed 20 .i2s 1 21 := ⟨by decide +kernel, rfl⟩
set_option maxRecDepth 100000 in
theorem d_Sheet_narrowed_21 : Dc m_Sheet_narrowed 21 .i2l 1 22 := ⟨by decide +kernel, rfl⟩
set_option maxRecDepth 100000 in
theorem d_Sheet_narrowed_22 : Dc m_Sheet_narrowed 22 .lreturn 1 23 := ⟨by decide +kernel, rfl⟩
set_option maxRecDepth 100000 in
theorem d_Sheet_narrowed_23 : Dc m_Sheet_narrowed 23 (.iload_n 1) 1 24 := ⟨by decide +kernel, rfl⟩
set_option maxRecDepth 100000 in
theorem d_Sheet_narrowed_24 : Dc m_Sheet_narrowed 24 .i2l 1 25 := ⟨by decide +kernel, rfl⟩
set_option maxRecDepth 100000 in
theorem d_Sheet_narrowed_25 : Dc m_Sheet_narrowed 25 .lreturn 1 26 := ⟨by decide +kernel, rfl⟩
set_option maxRecDepth 100000 in
theorem d_Shelf_init_0 : Dc m_Shelf_init 0 (.aload_n 0) 1 1 := ⟨by decide +kernel, rfl⟩
set_option maxRecDepth 100000 in
theorem d_Shelf_init_1 : Dc m_Shelf_init 1 (.invokespecial 3) 3 4 := ⟨by decide +kernel, rfl⟩
set_option maxRecDepth 100000 in
theorem d_Shelf_init_4 : Dc m_Shelf_init 4 (.aload_n 0) 1 5 := ⟨by decide +kernel, rfl⟩
set_option maxRecDepth 100000 in
theorem d_Shelf_init_5 : Dc m_Shelf_init 5 (.bipush (-9)) 2 7 := ⟨by decide +kernel, rfl⟩
set_option maxRecDepth 100000 in
theorem d_Shelf_init_7 : Dc m_Shelf_init 7 (.putfield 9) 3 10 := ⟨by decide +kernel, rfl⟩
set_option maxRecDepth 100000 in
theorem d_Shelf_init_10 : Dc m_Shelf_init 10 (.aload_n 0) 1 11 := ⟨by decide +kernel, rfl⟩
set_option maxRecDepth 100000 in
theorem d_Shelf_init_11 : Dc m_Shelf_init 11 (.iconst (-1)) 1 12 := ⟨by decide +kernel, rfl⟩
set_option maxRecDepth 100000 in
theorem d_Shelf_init_12 : Dc m_Shelf_init 12 (.putfield 15) 3 15 := ⟨by decide +kernel, rfl⟩
set_option maxRecDepth 100000 in
theorem d_Shelf_init_15 : Dc m_Shelf_init 15 (.aload_n 0) 1 16 := ⟨by decide +kernel, rfl⟩
set_option maxRecDepth 100000 in
theorem d_Shelf_init_16 : Dc m_Shelf_init 16 (.iconst 0) 1 17 := ⟨by decide +kernel, rfl⟩
set_option maxRecDepth 100000 in
theorem d_Shelf_init_17 : Dc m_Shelf_init 17 (.putfield 18) 3 20 := ⟨by decide +kernel, rfl⟩
set_option maxRecDepth 100000 in
theorem d_Shelf_init_20 : Dc m_Shelf_init 20 .return_ 1 21 := ⟨by decide +kernel, rfl⟩
set_option maxRecDepth 100000 in
theorem d_Shelf_holdsRow_0 : Dc m_Shelf_holdsRow 0 (.aload_n 0) 1 1 := ⟨by decide +kernel, rfl⟩
set_option maxRecDepth 100000 in
theorem d_Shelf_holdsRow_1 : Dc m_Shelf_holdsRow 1 (.getfield 15) 3 4 := ⟨by decide +kernel, rfl⟩
set_option maxRecDepth 100000 in
theorem d_Shelf_holdsRow_4 : Dc m_Shelf_holdsRow 4 (.iconst (-1)) 1 5 := ⟨by decide +kernel, rfl⟩
set_option maxRecDepth 100000 in
theorem d_Shelf_holdsRow_5 : Dj m_Shelf_holdsRow 5 (.if_icmp .eq) 8 12 := ⟨7, by decide +kernel, rfl, by decide⟩
set_option maxRecDepth 100000 in
theorem d_Shelf_holdsRow_8 : Dc m_Shelf_holdsRow 8 (.iconst 1) 1 9 := ⟨by decide +kernel, rfl⟩
set_option maxRecDepth 100000 in
theorem d_Shelf_holdsRow_9 : Dj m_Shelf_holdsRow 9 .goto 12 13 := ⟨4, by decide +kernel, rfl, by decide⟩
set_option maxRecDepth 100000 in
theorem d_Shelf_holdsRow_12 : Dc m_Shelf_holdsRow 12 (.iconst 0) 1 13 := ⟨by decide +kernel, rfl⟩
set_option maxRecDepth 100000 in
theorem d_Shelf_holdsRow_13 : Dc m_Shelf_holdsRow 13 .ireturn 1 14 := ⟨by decide +kernel, rfl⟩
set_option maxRecDepth 100000 in
theorem d_Shelf_holdNothing_0 : Dc m_Shelf_holdNothing 0 (.aload_n 0) 1 1 := ⟨by decide +kernel, rfl⟩
set_option maxRecDepth 100000 in
theorem d_Shelf_holdNothing_1 : Dc m_Shelf_holdNothing 1 (.bipush (-9)) 2 3 := ⟨by decide +kernel, rfl⟩
set_option maxRecDepth 100000 in
theorem d_Shelf_holdNothing_3 : Dc m_Shelf_holdNothing 3 (.putfield 9) 3 6 := ⟨by decide +kernel, rfl⟩
set_option maxRecDepth 100000 in
theorem d_Shelf_holdNothing_6 : Dc m_Shelf_holdNothing 6 (.aload_n 0) 1 7 := ⟨by decide +kernel, rfl⟩
set_option maxRecDepth 100000 in
theorem d_Shelf_holdNothing_7 : Dc m_Shelf_holdNothing 7 (.iconst (-1)) 1 8 := ⟨by decide +kernel, rfl⟩
set_option maxRecDepth 100000 in
theorem d_Shelf_holdNothing_8 : Dc m_Shelf_holdNothing 8 (.putfield 15) 3 11 := ⟨by decide +kernel, rfl⟩
set_option maxRecDepth 100000 in
theorem d_Shelf_holdNothing_11 : Dc m_Shelf_holdNothing 11 (.aload_n 0) 1 12 := ⟨by decide +kernel, rfl⟩
set_option maxRecDepth 100000 in
theorem d_Shelf_holdNothing_12 : Dc m_Shelf_holdNothing 12 (.iconst 0) 1 13 := ⟨by decide +kernel, rfl⟩
set_option maxRecDepth 100000 in
theorem d_Shelf_holdNothing_13 : Dc m_Shelf_holdNothing 13 (.putfield 18) 3 16 := ⟨by decide +kernel, rfl⟩
set_option maxRecDepth 100000 in
theorem d_Shelf_holdNothing_16 : Dc m_Shelf_holdNothing 16 .return_ 1 17 := ⟨by decide +kernel, rfl⟩
set_option maxRecDepth 100000 in
theorem d_Shelf_holdLearner_0 : Dc m_Shelf_holdLearner 0 (.aload_n 0) 1 1 := ⟨by decide +kernel, rfl⟩
set_option maxRecDepth 100000 in
theorem d_Shelf_holdLearner_1 : Dc m_Shelf_holdLearner 1 (.invokevirtual 21) 3 4 := ⟨by decide +kernel, rfl⟩
set_option maxRecDepth 100000 in
theorem d_Shelf_holdLearner_4 : Dc m_Shelf_holdLearner 4 (.aload_n 0) 1 5 := ⟨by decide +kernel, rfl⟩
set_option maxRecDepth 100000 in
theorem d_Shelf_holdLearner_5 : Dc m_Shelf_holdLearner 5 (.iload_n 1) 1 6 := ⟨by decide +kernel, rfl⟩
set_option maxRecDepth 100000 in
theorem d_Shelf_holdLearner_6 : Dc m_Shelf_holdLearner 6 (.putfield 9) 3 9 := ⟨by decide +kernel, rfl⟩
set_option maxRecDepth 100000 in
theorem d_Shelf_holdLearner_9 : Dc m_Shelf_holdLearner 9 .return_ 1 10 := ⟨by decide +kernel, rfl⟩
set_option maxRecDepth 100000 in
theorem d_Shelf_holdRow_0 : Dc m_Shelf_holdRow 0 (.aload_n 0) 1 1 := ⟨by decide +kernel, rfl⟩
set_option maxRecDepth 100000 in
theorem d_Shelf_holdRow_1 : Dc m_Shelf_holdRow 1 (.bipush (-9)) 2 3 := ⟨by decide +kernel, rfl⟩
set_option maxRecDepth 100000 in
theorem d_Shelf_holdRow_3 : Dc m_Shelf_holdRow 3 (.putfield 9) 3 6 := ⟨by decide +kernel, rfl⟩
set_option maxRecDepth 100000 in
theorem d_Shelf_holdRow_6 : Dc m_Shelf_holdRow 6 (.aload_n 0) 1 7 := ⟨by decide +kernel, rfl⟩
set_option maxRecDepth 100000 in
theorem d_Shelf_holdRow_7 : Dc m_Shelf_holdRow 7 (.aload_n 1) 1 8 := ⟨by decide +kernel, rfl⟩
set_option maxRecDepth 100000 in
theorem d_Shelf_holdRow_8 : Dc m_Shelf_holdRow 8 (.getfield 24) 3 11 := ⟨by decide +kernel, rfl⟩
set_option maxRecDepth 100000 in
theorem d_Shelf_holdRow_11 : Dc m_Shelf_holdRow 11 (.putfield 15) 3 14 := ⟨by decide +kernel, rfl⟩
set_option maxRecDepth 100000 in
theorem d_Shelf_holdRow_14 : Dc m_Shelf_holdRow 14 (.aload_n 0) 1 15 := ⟨by decide +kernel, rfl⟩
set_option maxRecDepth 100000 in
theorem d_Shelf_holdRow_15 : Dc m_Shelf_holdRow 15 (.aload_n 1) 1 16 := ⟨by decide +kernel, rfl⟩
set_option maxRecDepth 100000 in
theorem d_Shelf_holdRow_16 : Dc m_Shelf_holdRow 16 (.getfield 27) 3 19 := ⟨by decide +kernel, rfl⟩
set_option maxRecDepth 100000 in
theorem d_Shelf_holdRow_19 : Dc m_Shelf_holdRow 19 (.putfield 18) 3 22 := ⟨by decide +kernel, rfl⟩
set_option maxRecDepth 100000 in
theorem d_Shelf_holdRow_22 : Dc m_Shelf_holdRow 22 .return_ 1 23 := ⟨by decide +kernel, rfl⟩
set_option maxRecDepth 100000 in
theorem d_Text_init_0 : Dc m_Text_init 0 (.aload_n 0) 1 1 := ⟨by decide +kernel, rfl⟩
set_option maxRecDepth 100000 in
theorem d_Text_init_1 : Dc m_Text_init 1 (.invokespecial 3) 3 4 := ⟨by decide +kernel, rfl⟩
set_option maxRecDepth 100000 in
theorem d_Text_init_4 : Dc m_Text_init 4 (.aload_n 0) 1 5 := ⟨by decide +kernel, rfl⟩
set_option maxRecDepth 100000 in
theorem d_Text_init_5 : Dc m_Text_init 5 (.sipush (200)) 3 8 := ⟨by decide +kernel, rfl⟩
set_option maxRecDepth 100000 in
theorem d_Text_init_8 : Dc m_Text_init 8 (.newarray .byte) 2 10 := ⟨by decide +kernel, rfl⟩
set_option maxRecDepth 100000 in
theorem d_Text_init_10 : Dc m_Text_init 10 (.putfield 9) 3 13 := ⟨by decide +kernel, rfl⟩
set_option maxRecDepth 100000 in
theorem d_Text_init_13 : Dc m_Text_init 13 (.aload_n 0) 1 14 := ⟨by decide +kernel, rfl⟩
set_option maxRecDepth 100000 in
theorem d_Text_init_14 : Dc m_Text_init 14 (.iconst 0) 1 15 := ⟨by decide +kernel, rfl⟩
set_option maxRecDepth 100000 in
theorem d_Text_init_15 : Dc m_Text_init 15 (.putfield 15) 3 18 := ⟨by decide +kernel, rfl⟩
set_option maxRecDepth 100000 in
theorem d_Text_init_18 : Dc m_Text_init 18 (.aload_n 0) 1 19 := ⟨by decide +kernel, rfl⟩
set_option maxRecDepth 100000 in
theorem d_Text_init_19 : Dc m_Text_init 19 (.iconst 0) 1 20 := ⟨by decide +kernel, rfl⟩
set_option maxRecDepth 100000 in
theorem d_Text_init_20 : Dc m_Text_init 20 (.putfield 19) 3 23 := ⟨by decide +kernel, rfl⟩
set_option maxRecDepth 100000 in
theorem d_Text_init_23 : Dc m_Text_init 23 .return_ 1 24 := ⟨by decide +kernel, rfl⟩
set_option maxRecDepth 100000 in
theorem d_Text_append_0 : Dc m_Text_append 0 (.aload_n 0) 1 1 := ⟨by decide +kernel, rfl⟩
set_option maxRecDepth 100000 in
theorem d_Text_append_1 : Dc m_Text_append 1 (.getfield 15) 3 4 := ⟨by decide +kernel, rfl⟩
set_option maxRecDepth 100000 in
theorem d_Text_append_4 : Dc m_Text_append 4 (.sipush (200)) 3 7 := ⟨by decide +kernel, rfl⟩
set_option maxRecDepth 100000 in
theorem d_Text_append_7 : Dj m_Text_append 7 (.if_icmp .lt) 10 11 := ⟨4, by decide +kernel, rfl, by decide⟩
set_option maxRecDepth 100000 in
theorem d_Text_append_10 : Dc m_Text_append 10 .return_ 1 11 := ⟨by decide +kernel, rfl⟩
set_option maxRecDepth 100000 in
theorem d_Text_append_11 : Dc m_Text_append 11 (.aload_n 0) 1 12 := ⟨by decide +kernel, rfl⟩
set_option maxRecDepth 100000 in
theorem d_Text_append_12 : Dc m_Text_append 12 (.getfield 9) 3 15 := ⟨by decide +kernel, rfl⟩
set_option maxRecDepth 100000 in
theorem d_Text_append_15 : Dc m_Text_append 15 (.aload_n 0) 1 16 := ⟨by decide +kernel, rfl⟩
set_option maxRecDepth 100000 in
theorem d_Text_append_16 : Dc m_Text_append 16 (.getfield 15) 3 19 := ⟨by decide +kernel, rfl⟩
set_option maxRecDepth 100000 in
theorem d_Text_append_19 : Dc m_Text_append 19 (.iload_n 1) 1 20 := ⟨by decide +kernel, rfl⟩
set_option maxRecDepth 100000 in
theorem d_Text_append_20 : Dc m_Text_append 20 .bastore 1 21 := ⟨by decide +kernel, rfl⟩
set_option maxRecDepth 100000 in
theorem d_Text_append_21 : Dc m_Text_append 21 (.aload_n 0) 1 22 := ⟨by decide +kernel, rfl⟩
set_option maxRecDepth 100000 in
theorem d_Text_append_22 : Dc m_Text_append 22 .dup 1 23 := ⟨by decide +kernel, rfl⟩
set_option maxRecDepth 100000 in
theorem d_Text_append_23 : Dc m_Text_append 23 (.getfield 15) 3 26 := ⟨by decide +kernel, rfl⟩
set_option maxRecDepth 100000 in
theorem d_Text_append_26 : Dc m_Text_append 26 (.iconst 1) 1 27 := ⟨by decide +kernel, rfl⟩
set_option maxRecDepth 100000 in
theorem d_Text_append_27 : Dc m_Text_append 27 .iadd 1 28 := ⟨by decide +kernel, rfl⟩
set_option maxRecDepth 100000 in
theorem d_Text_append_28 : Dc m_Text_append 28 (.putfield 15) 3 31 := ⟨by decide +kernel, rfl⟩
set_option maxRecDepth 100000 in
theorem d_Text_append_31 : Dc m_Text_append 31 .return_ 1 32 := ⟨by decide +kernel, rfl⟩
set_option maxRecDepth 100000 in
theorem d_Text_readInto_0 : Dc m_Text_readInto 0 (.aload_n 1) 1 1 := ⟨by decide +kernel, rfl⟩
set_option maxRecDepth 100000 in
theorem d_Text_readInto_1 : Dc m_Text_readInto 1 (.iconst 0) 1 2 := ⟨by decide +kernel, rfl⟩
set_option maxRecDepth 100000 in
theorem d_Text_readInto_2 : Dc m_Text_readInto 2 (.putfield 22) 3 5 := ⟨by decide +kernel, rfl⟩
set_option maxRecDepth 100000 in
theorem d_Text_readInto_5 : Dc m_Text_readInto 5 (.aload_n 0) 1 6 := ⟨by decide +kernel, rfl⟩
set_option maxRecDepth 100000 in
theorem d_Text_readInto_6 : Dc m_Text_readInto 6 (.iconst 0) 1 7 := ⟨by decide +kernel, rfl⟩
set_option maxRecDepth 100000 in
theorem d_Text_readInto_7 : Dc m_Text_readInto 7 (.putfield 19) 3 10 := ⟨by decide +kernel, rfl⟩
set_option maxRecDepth 100000 in
theorem d_Text_readInto_10 : Dc m_Text_readInto 10 (.iconst 0) 1 11 := ⟨by decide +kernel, rfl⟩
set_option maxRecDepth 100000 in
theorem d_Text_readInto_11 : Dc m_Text_readInto 11 (.istore_n 2) 1 12 := ⟨by decide +kernel, rfl⟩
set_option maxRecDepth 100000 in
theorem d_Text_readInto_12 : Dc m_Text_readInto 12 (.iload_n 2) 1 13 := ⟨by decide +kernel, rfl⟩
set_option maxRecDepth 100000 in
theorem d_Text_readInto_13 : Dc m_Text_readInto 13 (.bipush (12)) 2 15 := ⟨by decide +kernel, rfl⟩
set_option maxRecDepth 100000 in
theorem d_Text_readInto_15 : Dj m_Text_readInto 15 (.if_icmp .ge) 18 51 := ⟨36, by decide +kernel, rfl, by decide⟩
set_option maxRecDepth 100000 in
theorem d_Text_readInto_18 : Dc m_Text_readInto 18 (.aload_n 0) 1 19 := ⟨by decide +kernel, rfl⟩
set_option maxRecDepth 100000 in
theorem d_Text_readInto_19 : Dc m_Text_readInto 19 (.invokevirtual 27) 3 22 := ⟨by decide +kernel, rfl⟩
set_option maxRecDepth 100000 in
theorem d_Text_readInto_22 : Dc m_Text_readInto 22 (.aload_n 0) 1 23 := ⟨by decide +kernel, rfl⟩
set_option maxRecDepth 100000 in
theorem d_Text_readInto_23 : Dc m_Text_readInto 23 (.getfield 19) 3 26 := ⟨by decide +kernel, rfl⟩
set_option maxRecDepth 100000 in
theorem d_Text_readInto_26 : Dc m_Text_readInto 26 (.aload_n 0) 1 27 := ⟨by decide +kernel, rfl⟩
set_option maxRecDepth 100000 in
theorem d_Text_readInto_27 : Dc m_Text_readInto 27 (.getfield 15) 3 30 := ⟨by decide +kernel, rfl⟩
set_option maxRecDepth 100000 in
theorem d_Text_readInto_30 : Dj m_Text_readInto 30 (.if_icmp .lt) 33 35 := ⟨5, by decide +kernel, rfl, by decide⟩
set_option maxRecDepth 100000 in
theorem d_Text_readInto_33 : Dc m_Text_readInto 33 (.iconst 1) 1 34 := ⟨by decide +kernel, rfl⟩
set_option maxRecDepth 100000 in
theorem d_Text_readInto_34 : Dc m_Text_readInto 34 .ireturn 1 35 := ⟨by decide +kernel, rfl⟩
set_option maxRecDepth 100000 in
theorem d_Text_readInto_35 : Dc m_Text_readInto 35 (.aload_n 0) 1 36 := ⟨by decide +kernel, rfl⟩
set_option maxRecDepth 100000 in
theorem d_Text_readInto_36 : Dc m_Text_readInto 36 (.aload_n 1) 1 37 := ⟨by decide +kernel, rfl⟩
set_option maxRecDepth 100000 in
theorem d_Text_readInto_37 : Dc m_Text_readInto 37 (.invokevirtual 30) 3 40 := ⟨by decide +kernel, rfl⟩
set_option maxRecDepth 100000 in
theorem d_Text_readInto_40 : Dj m_Text_readInto 40 (.ifCond .ne) 43 45 := ⟨5, by decide +kernel, rfl, by decide⟩
set_option maxRecDepth 100000 in
theorem d_Text_readInto_43 : Dc m_Text_readInto 43 (.iconst 0) 1 44 := ⟨by decide +kernel, rfl⟩
set_option maxRecDepth 100000 in
theorem d_Text_readInto_44 : Dc m_Text_readInto 44 .ireturn 1 45 := ⟨by decide +kernel, rfl⟩
set_option maxRecDepth 100000 in
theorem d_Text_readInto_45 : Dc m_Text_readInto 45 (.iinc 2 (1)) 3 48 := ⟨by decide +kernel, rfl⟩
set_option maxRecDepth 100000 in
theorem d_Text_readInto_48 : Dj m_Text_readInto 48 .goto 51 12 := ⟨-36, by decide +kernel, rfl, by decide⟩
set_option maxRecDepth 100000 in
theorem d_Text_readInto_51 : Dc m_Text_readInto 51 (.aload_n 0) 1 52 := ⟨by decide +kernel, rfl⟩
set_option maxRecDepth 100000 in
theorem d_Text_readInto_52 : Dc m_Text_readInto 52 (.invokevirtual 27) 3 55 := ⟨by decide +kernel, rfl⟩
set_option maxRecDepth 100000 in
theorem d_Text_readInto_55 : Dc m_Text_readInto 55 (.aload_n 0) 1 56 := ⟨by decide +kernel, rfl⟩
set_option maxRecDepth 100000 in
theorem d_Text_readInto_56 : Dc m_Text_readInto 56 (.getfield 19) 3 59 := ⟨by decide +kernel, rfl⟩
set_option maxRecDepth 100000 in
theorem d_Text_readInto_59 : Dc m_Text_readInto 59 (.aload_n 0) 1 60 := ⟨by decide +kernel, rfl⟩
set_option maxRecDepth 100000 in
theorem d_Text_readInto_60 : Dc m_Text_readInto 60 (.getfield 15) 3 63 := ⟨by decide +kernel, rfl⟩
set_option maxRecDepth 100000 in
theorem d_Text_readInto_63 : Dj m_Text_readInto 63 (.if_icmp .lt) 66 70 := ⟨7, by decide +kernel, rfl, by decide⟩
set_option maxRecDepth 100000 in
theorem d_Text_readInto_66 : Dc m_Text_readInto 66 (.iconst 1) 1 67 := ⟨by decide +kernel, rfl⟩
set_option maxRecDepth 100000 in
theorem d_Text_readInto_67 : Dj m_Text_readInto 67 .goto 70 71 := ⟨4, by decide +kernel, rfl, by decide⟩
set_option maxRecDepth 100000 in
theorem d_Text_readInto_70 : Dc m_Text_readInto 70 (.iconst 0) 1 71 := ⟨by decide +kernel, rfl⟩
set_option maxRecDepth 100000 in
theorem d_Text_readInto_71 : Dc m_Text_readInto 71 .ireturn 1 72 := ⟨by decide +kernel, rfl⟩
set_option maxRecDepth 100000 in
theorem d_Text_readItem_0 : Dc m_Text_readItem 0 (.aload_n 0) 1 1 := ⟨by decide +kernel, rfl⟩
set_option maxRecDepth 100000 in
theorem d_Text_readItem_1 : Dc m_Text_readItem 1 (.ldc 34) 2 3 := ⟨by decide +kernel, rfl⟩
set_option maxRecDepth 100000 in
theorem d_Text_readItem_3 : Dc m_Text_readItem 3 (.invokevirtual 36) 3 6 := ⟨by decide +kernel, rfl⟩
set_option maxRecDepth 100000 in
theorem d_Text_readItem_6 : Dj m_Text_readItem 6 (.ifCond .eq) 9 15 := ⟨9, by decide +kernel, rfl, by decide⟩
set_option maxRecDepth 100000 in
theorem d_Text_readItem_9 : Dc m_Text_readItem 9 (.aload_n 0) 1 10 := ⟨by decide +kernel, rfl⟩
set_option maxRecDepth 100000 in
theorem d_Text_readItem_10 : Dc m_Text_readItem 10 (.aload_n 1) 1 11 := ⟨by decide +kernel, rfl⟩
set_option maxRecDepth 100000 in
theorem d_Text_readItem_11 : Dc m_Text_readItem 11 (.invokevirtual 40) 3 14 := ⟨by decide +kernel, rfl⟩
set_option maxRecDepth 100000 in
theorem d_Text_readItem_14 : Dc m_Text_readItem 14 .ireturn 1 15 := ⟨by decide +kernel, rfl⟩
set_option maxRecDepth 100000 in
theorem d_Text_readItem_15 : Dc m_Text_readItem 15 (.aload_n 0) 1 16 := ⟨by decide +kernel, rfl⟩
set_option maxRecDepth 100000 in
theorem d_Text_readItem_16 : Dc m_Text_readItem 16 (.ldc 43) 2 18 := ⟨by decide +kernel, rfl⟩
set_option maxRecDepth 100000 in
theorem d_Text_readItem_18 : Dc m_Text_readItem 18 (.invokevirtual 36) 3 21 := ⟨by decide +kernel, rfl⟩
set_option maxRecDepth 100000 in
theorem d_Text_readItem_21 : Dj m_Text_readItem 21 (.ifCond .eq) 24 30 := ⟨9, by decide +kernel, rfl, by decide⟩
set_option maxRecDepth 100000 in
theorem d_Text_readItem_24 : Dc m_Text_readItem 24 (.aload_n 0) 1 25 := ⟨by decide +kernel, rfl⟩
set_option maxRecDepth 100000 in
theorem d_Text_readItem_25 : Dc m_Text_readItem 25 (.aload_n 1) 1 26 := ⟨by decide +kernel, rfl⟩
set_option maxRecDepth 100000 in
theorem d_Text_readItem_26 : Dc m_Text_readItem 26 (.invokevirtual 45) 3 29 := ⟨by decide +kernel, rfl⟩
set_option maxRecDepth 100000 in
theorem d_Text_readItem_29 : Dc m_Text_readItem 29 .ireturn 1 30 := ⟨by decide +kernel, rfl⟩
set_option maxRecDepth 100000 in
theorem d_Text_readItem_30 : Dc m_Text_readItem 30 (.aload_n 0) 1 31 := ⟨by decide +kernel, rfl⟩
set_option maxRecDepth 100000 in
theorem d_Text_readItem_31 : Dc m_Text_readItem 31 (.ldc 48) 2 33 := ⟨by decide +kernel, rfl⟩
set_option maxRecDepth 100000 in
theorem d_Text_readItem_33 : Dc m_Text_readItem 33 (.invokevirtual 36) 3 36 := ⟨by decide +kernel, rfl⟩
set_option maxRecDepth 100000 in
theorem d_Text_readItem_36 : Dj m_Text_readItem 36 (.ifCond .eq) 39 45 := ⟨9, by decide +kernel, rfl, by decide⟩
set_option maxRecDepth 100000 in
theorem d_Text_readItem_39 : Dc m_Text_readItem 39 (.aload_n 0) 1 40 := ⟨by decide +kernel, rfl⟩
set_option maxRecDepth 100000 in
theorem d_Text_readItem_40 : Dc m_Text_readItem 40 (.aload_n 1) 1 41 := ⟨by decide +kernel, rfl⟩
set_option maxRecDepth 100000 in
theorem d_Text_readItem_41 : Dc m_Text_readItem 41 (.invokevirtual 50) 3 44 := ⟨by decide +kernel, rfl⟩
set_option maxRecDepth 100000 in
theorem d_Text_readItem_44 : Dc m_Text_readItem 44 .ireturn 1 45 := ⟨by decide +kernel, rfl⟩
set_option maxRecDepth 100000 in
theorem d_Text_readItem_45 : Dc m_Text_readItem 45 (.iconst 0) 1 46 := ⟨by decide +kernel, rfl⟩
set_option maxRecDepth 100000 in
theorem d_Text_readItem_46 : Dc m_Text_readItem 46 .ireturn 1 47 := ⟨by decide +kernel, rfl⟩
set_option maxRecDepth 100000 in
theorem d_Text_readAsk_0 : Dc m_Text_readAsk 0 (.aload_n 0) 1 1 := ⟨by decide +kernel, rfl⟩
set_option maxRecDepth 100000 in
theorem d_Text_readAsk_1 : Dc m_Text_readAsk 1 (.invokevirtual 53) 3 4 := ⟨by decide +kernel, rfl⟩
set_option maxRecDepth 100000 in
theorem d_Text_readAsk_4 : Dc m_Text_readAsk 4 (.istore_n 2) 1 5 := ⟨by decide +kernel, rfl⟩
set_option maxRecDepth 100000 in
theorem d_Text_readAsk_5 : Dc m_Text_readAsk 5 (.iload_n 2) 1 6 := ⟨by decide +kernel, rfl⟩
set_option maxRecDepth 100000 in
theorem d_Text_readAsk_6 : Dj m_Text_readAsk 6 (.ifCond .lt) 9 18 := ⟨12, by decide +kernel, rfl, by decide⟩
set_option maxRecDepth 100000 in
theorem d_Text_readAsk_9 : Dc m_Text_readAsk 9 (.aload_n 0) 1 10 := ⟨by decide +kernel, rfl⟩
set_option maxRecDepth 100000 in
theorem d_Text_readAsk_10 : Dc m_Text_readAsk 10 (.ldc 57) 2 12 := ⟨by decide +kernel, rfl⟩
set_option maxRecDepth 100000 in
theorem d_Text_readAsk_12 : Dc m_Text_readAsk 12 (.invokevirtual 36) 3 15 := ⟨by decide +kernel, rfl⟩
set_option maxRecDepth 100000 in
theorem d_Text_readAsk_15 : Dj m_Text_readAsk 15 (.ifCond .ne) 18 20 := ⟨5, by decide +kernel, rfl, by decide⟩
set_option maxRecDepth 100000 in
theorem d_Text_readAsk_18 : Dc m_Text_readAsk 18 (.iconst 0) 1 19 := ⟨by decide +kernel, rfl⟩
set_option maxRecDepth 100000 in
theorem d_Text_readAsk_19 : Dc m_Text_readAsk 19 .ireturn 1 20 := ⟨by decide +kernel, rfl⟩
set_option maxRecDepth 100000 in
theorem d_Text_readAsk_20 : Dc m_Text_readAsk 20 (.aload_n 0) 1 21 := ⟨by decide +kernel, rfl⟩
set_option maxRecDepth 100000 in
theorem d_Text_readAsk_21 : Dc m_Text_readAsk 21 (.iconst 1) 1 22 := ⟨by decide +kernel, rfl⟩
set_option maxRecDepth 100000 in
theorem d_Text_readAsk_22 : Dc m_Text_readAsk 22 (.bipush (9)) 2 24 := ⟨by decide +kernel, rfl⟩
set_option maxRecDepth 100000 in
theorem d_Text_readAsk_24 : Dc m_Text_readAsk 24 (.invokevirtual 59) 3 27 := ⟨by decide +kernel, rfl⟩
set_option maxRecDepth 100000 in
theorem d_Text_readAsk_27 : Dc m_Text_readAsk 27 (.istore_n 3) 1 28 := ⟨by decide +kernel, rfl⟩
set_option maxRecDepth 100000 in
theorem d_Text_readAsk_28 : Dc m_Text_readAsk 28 (.iload_n 3) 1 29 := ⟨by decide +kernel, rfl⟩
set_option maxRecDepth 100000 in
theorem d_Text_readAsk_29 : Dj m_Text_readAsk 29 (.ifCond .lt) 32 39 := ⟨10, by decide +kernel, rfl, by decide⟩
set_option maxRecDepth 100000 in
theorem d_Text_readAsk_32 : Dc m_Text_readAsk 32 (.aload_n 0) 1 33 := ⟨by decide +kernel, rfl⟩
set_option maxRecDepth 100000 in
theorem d_Text_readAsk_33 : Dc m_Text_readAsk 33 (.invokevirtual 63) 3 36 := ⟨by decide +kernel, rfl⟩
set_option maxRecDepth 100000 in
theorem d_Text_readAsk_36 : Dj m_Text_readAsk 36 (.ifCond .ne) 39 41 := ⟨5, by decide +kernel, rfl, by decide⟩
set_option maxRecDepth 100000 in
theorem d_Text_readAsk_39 : Dc m_Text_readAsk 39 (.iconst 0) 1 40 := ⟨by decide +kernel, rfl⟩
set_option maxRecDepth 100000 in
theorem d_Text_readAsk_40 : Dc m_Text_readAsk 40 .ireturn 1 41 := ⟨by decide +kernel, rfl⟩
set_option maxRecDepth 100000 in
theorem d_Text_readAsk_41 : Dc m_Text_readAsk 41 (.aload_n 1) 1 42 := ⟨by decide +kernel, rfl⟩
set_option maxRecDepth 100000 in
theorem d_Text_readAsk_42 : Dc m_Text_readAsk 42 (.iconst 0) 1 43 := ⟨by decide +kernel, rfl⟩
set_option maxRecDepth 100000 in
theorem d_Text_readAsk_43 : Dc m_Text_readAsk 43 (.iload_n 2) 1 44 := ⟨by decide +kernel, rfl⟩
set_option maxRecDepth 100000 in
theorem d_Text_readAsk_44 : Dc m_Text_readAsk 44 (.iload_n 3) 1 45 := ⟨by decide +kernel, rfl⟩
set_option maxRecDepth 100000 in
theorem d_Text_readAsk_45 : Dc m_Text_readAsk 45 (.invokevirtual 67) 3 48 := ⟨by decide +kernel, rfl⟩
set_option maxRecDepth 100000 in
theorem d_Text_readAsk_48 : Dc m_Text_readAsk 48 (.iconst 1) 1 49 := ⟨by decide +kernel, rfl⟩
set_option maxRecDepth 100000 in
theorem d_Text_readAsk_49 : Dc m_Text_readAsk 49 .ireturn 1 50 := ⟨by decide +kernel, rfl⟩
set_option maxRecDepth 100000 in
theorem d_Text_readTell_0 : Dc m_Text_readTell 0 (.aload_n 0) 1 1 := ⟨by decide +kernel, rfl⟩
set_option maxRecDepth 100000 in
theorem d_Text_readTell_1 : Dc m_Text_readTell 1 (.invokevirtual 53) 3 4 := ⟨by decide +kernel, rfl⟩
set_option maxRecDepth 100000 in
theorem d_Text_readTell_4 : Dc m_Text_readTell 4 (.istore_n 2) 1 5 := ⟨by decide +kernel, rfl⟩
set_option maxRecDepth 100000 in
theorem d_Text_readTell_5 : Dc m_Text_readTell 5 (.iload_n 2) 1 6 := ⟨by decide +kernel, rfl⟩
set_option maxRecDepth 100000 in
theorem d_Text_readTell_6 : Dj m_Text_readTell 6 (.ifCond .lt) 9 16 := ⟨10, by decide +kernel, rfl, by decide⟩
set_option maxRecDepth 100000 in
theorem d_Text_readTell_9 : Dc m_Text_readTell 9 (.aload_n 0) 1 10 := ⟨by decide +kernel, rfl⟩
set_option maxRecDepth 100000 in
theorem d_Text_readTell_10 : Dc m_Text_readTell 10 (.invokevirtual 63) 3 13 := ⟨by decide +kernel, rfl⟩
set_option maxRecDepth 100000 in
theorem d_Text_readTell_13 : Dj m_Text_readTell 13 (.ifCond .ne) 16 18 := ⟨5, by decide +kernel, rfl, by decide⟩
set_option maxRecDepth 100000 in
theorem d_Text_readTell_16 : Dc m_Text_readTell 16 (.iconst 0) 1 17 := ⟨by decide +kernel, rfl⟩
set_option maxRecDepth 100000 in
theorem d_Text_readTell_17 : Dc m_Text_readTell 17 .ireturn 1 18 := ⟨by decide +kernel, rfl⟩
set_option maxRecDepth 100000 in
theorem d_Text_readTell_18 : Dc m_Text_readTell 18 (.aload_n 1) 1 19 := ⟨by decide +kernel, rfl⟩
set_option maxRecDepth 100000 in
theorem d_Text_readTell_19 : Dc m_Text_readTell 19 (.iconst 1) 1 20 := ⟨by decide +kernel, rfl⟩
set_option maxRecDepth 100000 in
theorem d_Text_readTell_20 : Dc m_Text_readTell 20 (.iload_n 2) 1 21 := ⟨by decide +kernel, rfl⟩
set_option maxRecDepth 100000 in
theorem d_Text_readTell_21 : Dc m_Text_readTell 21 (.iconst 0) 1 22 := ⟨by decide +kernel, rfl⟩
set_option maxRecDepth 100000 in
theorem d_Text_readTell_22 : Dc m_Text_readTell 22 (.invokevirtual 67) 3 25 := ⟨by decide +kernel, rfl⟩
set_option maxRecDepth 100000 in
theorem d_Text_readTell_25 : Dc m_Text_readTell 25 (.iconst 1) 1 26 := ⟨by decide +kernel, rfl⟩
set_option maxRecDepth 100000 in
theorem d_Text_readTell_26 : Dc m_Text_readTell 26 .ireturn 1 27 := ⟨by decide +kernel, rfl⟩
set_option maxRecDepth 100000 in
theorem d_Text_readRest_0 : Dc m_Text_readRest 0 (.aload_n 0) 1 1 := ⟨by decide +kernel, rfl⟩
set_option maxRecDepth 100000 in
theorem d_Text_readRest_1 : Dc m_Text_readRest 1 (.iconst 1) 1 2 := ⟨by decide +kernel, rfl⟩
set_option maxRecDepth 100000 in
theorem d_Text_readRest_2 : Dc m_Text_readRest 2 (.bipush (9)) 2 4 := ⟨by decide +kernel, rfl⟩
set_option maxRecDepth 100000 in
theorem d_Text_readRest_4 : Dc m_Text_readRest 4 (.invokevirtual 59) 3 7 := ⟨by decide +kernel, rfl⟩
set_option maxRecDepth 100000 in
theorem d_Text_readRest_7 : Dc m_Text_readRest 7 (.istore_n 2) 1 8 := ⟨by decide +kernel, rfl⟩
set_option maxRecDepth 100000 in
theorem d_Text_readRest_8 : Dc m_Text_readRest 8 (.iload_n 2) 1 9 := ⟨by decide +kernel, rfl⟩
set_option maxRecDepth 100000 in
theorem d_Text_readRest_9 : Dj m_Text_readRest 9 (.ifCond .lt) 12 19 := ⟨10, by decide +kernel, rfl, by decide⟩
set_option maxRecDepth 100000 in
theorem d_Text_readRest_12 : Dc m_Text_readRest 12 (.aload_n 0) 1 13 := ⟨by decide +kernel, rfl⟩
set_option maxRecDepth 100000 in
theorem d_Text_readRest_13 : Dc m_Text_readRest 13 (.invokevirtual 63) 3 16 := ⟨by decide +kernel, rfl⟩
set_option maxRecDepth 100000 in
theorem d_Text_readRest_16 : Dj m_Text_readRest 16 (.ifCond .ne) 19 21 := ⟨5, by decide +kernel, rfl, by decide⟩
set_option maxRecDepth 100000 in
theorem d_Text_readRest_19 : Dc m_Text_readRest 19 (.iconst 0) 1 20 := ⟨by decide +kernel, rfl⟩
set_option maxRecDepth 100000 in
theorem d_Text_readRest_20 : Dc m_Text_readRest 20 .ireturn 1 21 := ⟨by decide +kernel, rfl⟩
set_option maxRecDepth 100000 in
theorem d_Text_readRest_21 : Dc m_Text_readRest 21 (.aload_n 1) 1 22 := ⟨by decide +kernel, rfl⟩
set_option maxRecDepth 100000 in
theorem d_Text_readRest_22 : Dc m_Text_readRest 22 (.iconst 2) 1 23 := ⟨by decide +kernel, rfl⟩
set_option maxRecDepth 100000 in
theorem d_Text_readRest_23 : Dc m_Text_readRest 23 (.iload_n 2) 1 24 := ⟨by decide +kernel, rfl⟩
set_option maxRecDepth 100000 in
theorem d_Text_readRest_24 : Dc m_Text_readRest 24 (.iconst 0) 1 25 := ⟨by decide +kernel, rfl⟩
set_option maxRecDepth 100000 in
theorem d_Text_readRest_25 : Dc m_Text_readRest 25 (.invokevirtual 67) 3 28 := ⟨by decide +kernel, rfl⟩
set_option maxRecDepth 100000 in
theorem d_Text_readRest_28 : Dc m_Text_readRest 28 (.iconst 1) 1 29 := ⟨by decide +kernel, rfl⟩
set_option maxRecDepth 100000 in
theorem d_Text_readRest_29 : Dc m_Text_readRest 29 .ireturn 1 30 := ⟨by decide +kernel, rfl⟩
set_option maxRecDepth 100000 in
theorem d_Text_readPair_0 : Dc m_Text_readPair 0 (.aload_n 0) 1 1 := ⟨by decide +kernel, rfl⟩
set_option maxRecDepth 100000 in
theorem d_Text_readPair_1 : Dc m_Text_readPair 1 (.iconst 2) 1 2 := ⟨by decide +kernel, rfl⟩
set_option maxRecDepth 100000 in
theorem d_Text_readPair_2 : Dc m_Text_readPair 2 (.bipush (9)) 2 4 := ⟨by decide +kernel, rfl⟩
set_option maxRecDepth 100000 in
theorem d_Text_readPair_4 : Dc m_Text_readPair 4 (.invokevirtual 59) 3 7 := ⟨by decide +kernel, rfl⟩
set_option maxRecDepth 100000 in
theorem d_Text_readPair_7 : Dc m_Text_readPair 7 (.istore_n 1) 1 8 := ⟨by decide +kernel, rfl⟩
set_option maxRecDepth 100000 in
theorem d_Text_readPair_8 : Dc m_Text_readPair 8 (.iload_n 1) 1 9 := ⟨by decide +kernel, rfl⟩
set_option maxRecDepth 100000 in
theorem d_Text_readPair_9 : Dj m_Text_readPair 9 (.ifCond .ge) 12 14 := ⟨5, by decide +kernel, rfl, by decide⟩
set_option maxRecDepth 100000 in
theorem d_Text_readPair_12 : Dc m_Text_readPair 12 (.iconst (-1)) 1 13 := ⟨by decide +kernel, rfl⟩
set_option maxRecDepth 100000 in
theorem d_Text_readPair_13 : Dc m_Text_readPair 13 .ireturn 1 14 := ⟨by decide +kernel, rfl⟩
set_option maxRecDepth 100000 in
theorem d_Text_readPair_14 : Dc m_Text_readPair 14 (.aload_n 0) 1 15 := ⟨by decide +kernel, rfl⟩
set_option maxRecDepth 100000 in
theorem d_Text_readPair_15 : Dc m_Text_readPair 15 (.iconst 2) 1 16 := ⟨by decide +kernel, rfl⟩
set_option maxRecDepth 100000 in
theorem d_Text_readPair_16 : Dc m_Text_readPair 16 (.bipush (9)) 2 18 := ⟨by decide +kernel, rfl⟩
set_option maxRecDepth 100000 in
theorem d_Text_readPair_18 : Dc m_Text_readPair 18 (.invokevirtual 59) 3 21 := ⟨by decide +kernel, rfl⟩
set_option maxRecDepth 100000 in
theorem d_Text_readPair_21 : Dc m_Text_readPair 21 (.istore_n 2) 1 22 := ⟨by decide +kernel, rfl⟩
set_option maxRecDepth 100000 in
theorem d_Text_readPair_22 : Dc m_Text_readPair 22 (.iload_n 2) 1 23 := ⟨by decide +kernel, rfl⟩
set_option maxRecDepth 100000 in
theorem d_Text_readPair_23 : Dj m_Text_readPair 23 (.ifCond .ge) 26 28 := ⟨5, by decide +kernel, rfl, by decide⟩
set_option maxRecDepth 100000 in
theorem d_Text_readPair_26 : Dc m_Text_readPair 26 (.iconst (-1)) 1 27 := ⟨by decide +kernel, rfl⟩
set_option maxRecDepth 100000 in
theorem d_Text_readPair_27 : Dc m_Text_readPair 27 .ireturn 1 28 := ⟨by decide +kernel, rfl⟩
set_option maxRecDepth 100000 in
theorem d_Text_readPair_28 : Dc m_Text_readPair 28 (.iload_n 1) 1 29 := ⟨by decide +kernel, rfl⟩
set_option maxRecDepth 100000 in
theorem d_Text_readPair_29 : Dc m_Text_readPair 29 (.iload_n 2) 1 30 := ⟨by decide +kernel, rfl⟩
set_option maxRecDepth 100000 in
theorem d_Text_readPair_30 : Dc m_Text_readPair 30 (.invokestatic 71) 3 33 := ⟨by decide +kernel, rfl⟩
set_option maxRecDepth 100000 in
theorem d_Text_readPair_33 : Dc m_Text_readPair 33 .ireturn 1 34 := ⟨by decide +kernel, rfl⟩
set_option maxRecDepth 100000 in
theorem d_Text_readNumber_0 : Dc m_Text_readNumber 0 (.aload_n 0) 1 1 := ⟨by decide +kernel, rfl⟩
set_option maxRecDepth 100000 in
theorem d_Text_readNumber_1 : Dc m_Text_readNumber 1 (.invokevirtual 27) 3 4 := ⟨by decide +kernel, rfl⟩
set_option maxRecDepth 100000 in
theorem d_Text_readNumber_4 : Dc m_Text_readNumber 4 (.aload_n 0) 1 5 := ⟨by decide +kernel, rfl⟩
set_option maxRecDepth 100000 in
theorem d_Text_readNumber_5 : Dc m_Text_readNumber 5 (.bipush (48)) 2 7 := ⟨by decide +kernel, rfl⟩
set_option maxRecDepth 100000 in
theorem d_Text_readNumber_7 : Dc m_Text_readNumber 7 (.bipush (57)) 2 9 := ⟨by decide +kernel, rfl⟩
set_option maxRecDepth 100000 in
theorem d_Text_readNumber_9 : Dc m_Text_readNumber 9 (.invokevirtual 74) 3 12 := ⟨by decide +kernel, rfl⟩
set_option maxRecDepth 100000 in
theorem d_Text_readNumber_12 : Dc m_Text_readNumber 12 (.istore_n 3) 1 13 := ⟨by decide +kernel, rfl⟩
set_option maxRecDepth 100000 in
theorem d_Text_readNumber_13 : Dc m_Text_readNumber 13 (.iload_n 3) 1 14 := ⟨by decide +kernel, rfl⟩
set_option maxRecDepth 100000 in
theorem d_Text_readNumber_14 : Dc m_Text_readNumber 14 (.aload_n 0) 1 15 := ⟨by decide +kernel, rfl⟩
set_option maxRecDepth 100000 in
theorem d_Text_readNumber_15 : Dc m_Text_readNumber 15 (.getfield 19) 3 18 := ⟨by decide +kernel, rfl⟩
set_option maxRecDepth 100000 in
theorem d_Text_readNumber_18 : Dc m_Text_readNumber 18 .isub 1 19 := ⟨by decide +kernel, rfl⟩
set_option maxRecDepth 100000 in
theorem d_Text_readNumber_19 : Dc m_Text_readNumber 19 (.istore 4) 2 21 := ⟨by decide +kernel, rfl⟩
set_option maxRecDepth 100000 in
theorem d_Text_readNumber_21 : Dc m_Text_readNumber 21 (.iload 4) 2 23 := ⟨by decide +kernel, rfl⟩
set_option maxRecDepth 100000 in
theorem d_Text_readNumber_23 : Dc m_Text_readNumber 23 (.iconst 1) 1 24 := ⟨by decide +kernel, rfl⟩
set_option maxRecDepth 100000 in
theorem d_Text_readNumber_24 : Dj m_Text_readNumber 24 (.if_icmp .lt) 27 33 := ⟨9, by decide +kernel, rfl, by decide⟩
set_option maxRecDepth 100000 in
theorem d_Text_readNumber_27 : Dc m_Text_readNumber 27 (.iload 4) 2 29 := ⟨by decide +kernel, rfl⟩
set_option maxRecDepth 100000 in
theorem d_Text_readNumber_29 : Dc m_Text_readNumber 29 (.iconst 2) 1 30 := ⟨by decide +kernel, rfl⟩
set_option maxRecDepth 100000 in
theorem d_Text_readNumber_30 : Dj m_Text_readNumber 30 (.if_icmp .le) 33 35 := ⟨5, by decide +kernel, rfl, by decide⟩
set_option maxRecDepth 100000 in
theorem d_Text_readNumber_33 : Dc m_Text_readNumber 33 (.iconst (-1)) 1 34 := ⟨by decide +kernel, rfl⟩
set_option maxRecDepth 100000 in
theorem d_Text_readNumber_34 : Dc m_Text_readNumber 34 .ireturn 1 35 := ⟨by decide +kernel, rfl⟩
set_option maxRecDepth 100000 in
theorem d_Text_readNumber_35 : Dc m_Text_readNumber 35 (.iconst 0) 1 36 := ⟨by decide +kernel, rfl⟩
set_option maxRecDepth 100000 in
theorem d_Text_readNumber_36 : Dc m_Text_readNumber 36 (.istore 5) 2 38 := ⟨by decide +kernel, rfl⟩
set_option maxRecDepth 100000 in
theorem d_Text_readNumber_38 : Dc m_Text_readNumber 38 (.aload_n 0) 1 39 := ⟨by decide +kernel, rfl⟩
set_option maxRecDepth 100000 in
theorem d_Text_readNumber_39 : Dc m_Text_readNumber 39 (.getfield 19) 3 42 := ⟨by decide +kernel, rfl⟩
set_option maxRecDepth 100000 in
theorem d_Text_readNumber_42 : Dc m_Text_readNumber 42 (.istore 6) 2 44 := ⟨by decide +kernel, rfl⟩
set_option maxRecDepth 100000 in
theorem d_Text_readNumber_44 : Dc m_Text_readNumber 44 (.iload 6) 2 46 := ⟨by decide +kernel, rfl⟩
set_option maxRecDepth 100000 in
theorem d_Text_readNumber_46 : Dc m_Text_readNumber 46 (.iload_n 3) 1 47 := ⟨by decide +kernel, rfl⟩
set_option maxRecDepth 100000 in
theorem d_Text_readNumber_47 : Dj m_Text_readNumber 47 (.if_icmp .ge) 50 74 := ⟨27, by decide +kernel, rfl, by decide⟩
set_option maxRecDepth 100000 in
theorem d_Text_readNumber_50 : Dc m_Text_readNumber 50 (.iload 5) 2 52 := ⟨by decide +kernel, rfl⟩
set_option maxRecDepth 100000 in
theorem d_Text_readNumber_52 : Dc m_Text_readNumber 52 (.bipush (10)) 2 54 := ⟨by decide +kernel, rfl⟩
set_option maxRecDepth 100000 in
theorem d_Text_readNumber_54 : Dc m_Text_readNumber 54 .imul 1 55 := ⟨by decide +kernel, rfl⟩
set_option maxRecDepth 100000 in
theorem d_Text_readNumber_55 : Dc m_Text_readNumber 55 (.aload_n 0) 1 56 := ⟨by decide +kernel, rfl⟩
set_option maxRecDepth 100000 in
theorem d_Text_readNumber_56 : Dc m_Text_readNumber 56 (.getfield 9) 3 59 := ⟨by decide +kernel, rfl⟩
set_option maxRecDepth 100000 in
theorem d_Text_readNumber_59 : Dc m_Text_readNumber 59 (.iload 6) 2 61 := ⟨by decide +kernel, rfl⟩
set_option maxRecDepth 100000 in
theorem d_Text_readNumber_61 : Dc m_Text_readNumber 61 .baload 1 62 := ⟨by decide +kernel, rfl⟩
set_option maxRecDepth 100000 in
theorem d_Text_readNumber_62 : Dc m_Text_readNumber 62 .iadd 1 63 := ⟨by decide +kernel, rfl⟩
set_option maxRecDepth 100000 in
theorem d_Text_readNumber_63 : Dc m_Text_readNumber 63 (.bipush (48)) 2 65 := ⟨by decide +kernel, rfl⟩
set_option maxRecDepth 100000 in
theorem d_Text_readNumber_65 : Dc m_Text_readNumber 65 .isub 1 66 := ⟨by decide +kernel, rfl⟩
set_option maxRecDepth 100000 in
theorem d_Text_readNumber_66 : Dc m_Text_readNumber 66 (.istore 5) 2 68 := ⟨by decide +kernel, rfl⟩
set_option maxRecDepth 100000 in
theorem d_Text_readNumber_68 : Dc m_Text_readNumber 68 (.iinc 6 (1)) 3 71 := ⟨by decide +kernel, rfl⟩
set_option maxRecDepth 100000 in
theorem d_Text_readNumber_71 : Dj m_Text_readNumber 71 .goto 74 44 := ⟨-27, by decide +kernel, rfl, by decide⟩
set_option maxRecDepth 100000 in
theorem d_Text_readNumber_74 : Dc m_Text_readNumber 74 (.iload 5) 2 76 := ⟨by decide +kernel, rfl⟩
set_option maxRecDepth 100000 in
theorem d_Text_readNumber_76 : Dc m_Text_readNumber 76 (.iload_n 1) 1 77 := ⟨by decide +kernel, rfl⟩
set_option maxRecDepth 100000 in
theorem d_Text_readNumber_77 : Dj m_Text_readNumber 77 (.if_icmp .lt) 80 86 := ⟨9, by decide +kernel, rfl, by decide⟩
set_option maxRecDepth 100000 in
theorem d_Text_readNumber_80 : Dc m_Text_readNumber 80 (.iload 5) 2 82 := ⟨by decide +kernel, rfl⟩
set_option maxRecDepth 100000 in
theorem d_Text_readNumber_82 : Dc m_Text_readNumber 82 (.iload_n 2) 1 83 := ⟨by decide +kernel, rfl⟩
set_option maxRecDepth 100000 in
theorem d_Text_readNumber_83 : Dj m_Text_readNumber 83 (.if_icmp .le) 86 88 := ⟨5, by decide +kernel, rfl, by decide⟩
set_option maxRecDepth 100000 in
theorem d_Text_readNumber_86 : Dc m_Text_readNumber 86 (.iconst (-1)) 1 87 := ⟨by decide +kernel, rfl⟩
set_option maxRecDepth 100000 in
theorem d_Text_readNumber_87 : Dc m_Text_readNumber 87 .ireturn 1 88 := ⟨by decide +kernel, rfl⟩
set_option maxRecDepth 100000 in
theorem d_Text_readNumber_88 : Dc m_Text_readNumber 88 (.aload_n 0) 1 89 := ⟨by decide +kernel, rfl⟩
set_option maxRecDepth 100000 in
theorem d_Text_readNumber_89 : Dc m_Text_readNumber 89 (.iload_n 3) 1 90 := ⟨by decide +kernel, rfl⟩
set_option maxRecDepth 100000 in
theorem d_Text_readNumber_90 : Dc m_Text_readNumber 90 (.putfield 19) 3 93 := ⟨by decide +kernel, rfl⟩
set_option maxRecDepth 100000 in
theorem d_Text_readNumber_93 : Dc m_Text_readNumber 93 (.iload 5) 2 95 := ⟨by decide +kernel, rfl⟩
set_option maxRecDepth 100000 in
theorem d_Text_readNumber_95 : Dc m_Text_readNumber 95 .ireturn 1 96 := ⟨by decide +kernel, rfl⟩
set_option maxRecDepth 100000 in
theorem d_Text_isNextName_0 : Dc m_Text_isNextName 0 (.aload_n 0) 1 1 := ⟨by decide +kernel, rfl⟩
set_option maxRecDepth 100000 in
theorem d_Text_isNextName_1 : Dc m_Text_isNextName 1 (.invokevirtual 27) 3 4 := ⟨by decide +kernel, rfl⟩
set_option maxRecDepth 100000 in
theorem d_Text_isNextName_4 : Dc m_Text_isNextName 4 (.aload_n 0) 1 5 := ⟨by decide +kernel, rfl⟩
set_option maxRecDepth 100000 in
theorem d_Text_isNextName_5 : Dc m_Text_isNextName 5 (.bipush (97)) 2 7 := ⟨by decide +kernel, rfl⟩
set_option maxRecDepth 100000 in
theorem d_Text_isNextName_7 : Dc m_Text_isNextName 7 (.bipush (122)) 2 9 := ⟨by decide +kernel, rfl⟩
set_option maxRecDepth 100000 in
theorem d_Text_isNextName_9 : Dc m_Text_isNextName 9 (.invokevirtual 74) 3 12 := ⟨by decide +kernel, rfl⟩
set_option maxRecDepth 100000 in
theorem d_Text_isNextName_12 : Dc m_Text_isNextName 12 (.istore_n 2) 1 13 := ⟨by decide +kernel, rfl⟩
set_option maxRecDepth 100000 in
theorem d_Text_isNextName_13 : Dc m_Text_isNextName 13 (.iload_n 2) 1 14 := ⟨by decide +kernel, rfl⟩
set_option maxRecDepth 100000 in
theorem d_Text_isNextName_14 : Dc m_Text_isNextName 14 (.aload_n 0) 1 15 := ⟨by decide +kernel, rfl⟩
set_option maxRecDepth 100000 in
theorem d_Text_isNextName_15 : Dc m_Text_isNextName 15 (.getfield 19) 3 18 := ⟨by decide +kernel, rfl⟩
set_option maxRecDepth 100000 in
theorem d_Text_isNextName_18 : Dc m_Text_isNextName 18 .isub 1 19 := ⟨by decide +kernel, rfl⟩
set_option maxRecDepth 100000 in
theorem d_Text_isNextName_19 : Dc m_Text_isNextName 19 (.aload_n 1) 1 20 := ⟨by decide +kernel, rfl⟩
set_option maxRecDepth 100000 in
theorem d_Text_isNextName_20 : Dc m_Text_isNextName 20 (.invokevirtual 78) 3 23 := ⟨by decide +kernel, rfl⟩
set_option maxRecDepth 100000 in
theorem d_Text_isNextName_23 : Dj m_Text_isNextName 23 (.if_icmp .eq) 26 28 := ⟨5, by decide +kernel, rfl, by decide⟩
set_option maxRecDepth 100000 in
theorem d_Text_isNextName_26 : Dc m_Text_isNextName 26 (.iconst 0) 1 27 := ⟨by decide +kernel, rfl⟩
set_option maxRecDepth 100000 in
theorem d_Text_isNextName_27 : Dc m_Text_isNextName 27 .ireturn 1 28 := ⟨by decide +kernel, rfl⟩
set_option maxRecDepth 100000 in
theorem d_Text_isNextName_28 : Dc m_Text_isNextName 28 (.iconst 0) 1 29 := ⟨by decide +kernel, rfl⟩
set_option maxRecDepth 100000 in
theorem d_Text_isNextName_29 : Dc m_Text_isNextName 29 (.istore_n 3) 1 30 := ⟨by decide +kernel, rfl⟩
set_option maxRecDepth 100000 in
theorem d_Text_isNextName_30 : Dc m_Text_isNextName 30 (.iload_n 3) 1 31 := ⟨by decide +kernel, rfl⟩
set_option maxRecDepth 100000 in
theorem d_Text_isNextName_31 : Dc m_Text_isNextName 31 (.aload_n 1) 1 32 := ⟨by decide +kernel, rfl⟩
set_option maxRecDepth 100000 in
theorem d_Text_isNextName_32 : Dc m_Text_isNextName 32 (.invokevirtual 78) 3 35 := ⟨by decide +kernel, rfl⟩
set_option maxRecDepth 100000 in
theorem d_Text_isNextName_35 : Dj m_Text_isNextName 35 (.if_icmp .ge) 38 65 := ⟨30, by decide +kernel, rfl, by decide⟩
set_option maxRecDepth 100000 in
theorem d_Text_isNextName_38 : Dc m_Text_isNextName 38 (.aload_n 0) 1 39 := ⟨by decide +kernel, rfl⟩
set_option maxRecDepth 100000 in
theorem d_Text_isNextName_39 : Dc m_Text_isNextName 39 (.getfield 9) 3 42 := ⟨by decide +kernel, rfl⟩
set_option maxRecDepth 100000 in
theorem d_Text_isNextName_42 : Dc m_Text_isNextName 42 (.aload_n 0) 1 43 := ⟨by decide +kernel, rfl⟩
set_option maxRecDepth 100000 in
theorem d_Text_isNextName_43 : Dc m_Text_isNextName 43 (.getfield 19) 3 46 := ⟨by decide +kernel, rfl⟩
set_option maxRecDepth 100000 in
theorem d_Text_isNextName_46 : Dc m_Text_isNextName 46 (.iload_n 3) 1 47 := ⟨by decide +kernel, rfl⟩
set_option maxRecDepth 100000 in
theorem d_Text_isNextName_47 : Dc m_Text_isNextName 47 .iadd 1 48 := ⟨by decide +kernel, rfl⟩
set_option maxRecDepth 100000 in
theorem d_Text_isNextName_48 : Dc m_Text_isNextName 48 .baload 1 49 := ⟨by decide +kernel, rfl⟩
set_option maxRecDepth 100000 in
theorem d_Text_isNextName_49 : Dc m_Text_isNextName 49 (.aload_n 1) 1 50 := ⟨by decide +kernel, rfl⟩
set_option maxRecDepth 100000 in
theorem d_Text_isNextName_50 : Dc m_Text_isNextName 50 (.iload_n 3) 1 51 := ⟨by decide +kernel, rfl⟩
set_option maxRecDepth 100000 in
theorem d_Text_isNextName_51 : Dc m_Text_isNextName 51 (.invokevirtual 82) 3 54 := ⟨by decide +kernel, rfl⟩
set_option maxRecDepth 100000 in
theorem d_Text_isNextName_54 : Dj m_Text_isNextName 54 (.if_icmp .eq) 57 59 := ⟨5, by decide +kernel, rfl, by decide⟩
set_option maxRecDepth 100000 in
theorem d_Text_isNextName_57 : Dc m_Text_isNextName 57 (.iconst 0) 1 58 := ⟨by decide +kernel, rfl⟩
set_option maxRecDepth 100000 in
theorem d_Text_isNextName_58 : Dc m_Text_isNextName 58 .ireturn 1 59 := ⟨by decide +kernel, rfl⟩
set_option maxRecDepth 100000 in
theorem d_Text_isNextName_59 : Dc m_Text_isNextName 59 (.iinc 3 (1)) 3 62 := ⟨by decide +kernel, rfl⟩
set_option maxRecDepth 100000 in
theorem d_Text_isNextName_62 : Dj m_Text_isNextName 62 .goto 65 30 := ⟨-32, by decide +kernel, rfl, by decide⟩
set_option maxRecDepth 100000 in
theorem d_Text_isNextName_65 : Dc m_Text_isNextName 65 (.aload_n 0) 1 66 := ⟨by decide +kernel, rfl⟩
set_option maxRecDepth 100000 in
theorem d_Text_isNextName_66 : Dc m_Text_isNextName 66 (.iload_n 2) 1 67 := ⟨by decide +kernel, rfl⟩
set_option maxRecDepth 100000 in
theorem d_Text_isNextName_67 : Dc m_Text_isNextName 67 (.putfield 19) 3 70 := ⟨by decide +kernel, rfl⟩
set_option maxRecDepth 100000 in
theorem d_Text_isNextName_70 : Dc m_Text_isNextName 70 (.iconst 1) 1 71 := ⟨by decide +kernel, rfl⟩
set_option maxRecDepth 100000 in
theorem d_Text_isNextName_71 : Dc m_Text_isNextName 71 .ireturn 1 72 := ⟨by decide +kernel, rfl⟩
set_option maxRecDepth 100000 in
theorem d_Text_isNextSemicolon_0 : Dc m_Text_isNextSemicolon 0 (.aload_n 0) 1 1 := ⟨by decide +kernel, rfl⟩
set_option maxRecDepth 100000 in
theorem d_Text_isNextSemicolon_1 : Dc m_Text_isNextSemicolon 1 (.invokevirtual 27) 3 4 := ⟨by decide +kernel, rfl⟩
set_option maxRecDepth 100000 in
theorem d_Text_isNextSemicolon_4 : Dc m_Text_isNextSemicolon 4 (.aload_n 0) 1 5 := ⟨by decide +kernel, rfl⟩
set_option maxRecDepth 100000 in
theorem d_Text_isNextSemicolon_5 : Dc m_Text_isNextSemicolon 5 (.getfield 19) 3 8 := ⟨by decide +kernel, rfl⟩
set_option maxRecDepth 100000 in
theorem d_Text_isNextSemicolon_8 : Dc m_Text_isNextSemicolon 8 (.aload_n 0) 1 9 := ⟨by decide +kernel, rfl⟩
set_option maxRecDepth 100000 in
theorem d_Text_isNextSemicolon_9 : Dc m_Text_isNextSemicolon 9 (.getfield 15) 3 12 := ⟨by decide +kernel, rfl⟩
set_option maxRecDepth 100000 in
theorem d_Text_isNextSemicolon_12 : Dj m_Text_isNextSemicolon 12 (.if_icmp .ge) 15 29 := ⟨17, by decide +kernel, rfl, by decide⟩
set_option maxRecDepth 100000 in
theorem d_Text_isNextSemicolon_15 : Dc m_Text_isNextSemicolon 15 (.aload_n 0) 1 16 := ⟨by decide +kernel, rfl⟩
set_option maxRecDepth 100000 in
theorem d_Text_isNextSemicolon_16 : Dc m_Text_isNextSemicolon 16 (.getfield 9) 3 19 := ⟨by decide +kernel, rfl⟩
set_option maxRecDepth 100000 in
theorem d_Text_isNextSemicolon_19 : Dc m_Text_isNextSemicolon 19 (.aload_n 0) 1 20 := ⟨by decide +kernel, rfl⟩
set_option maxRecDepth 100000 in
theorem d_Text_isNextSemicolon_20 : Dc m_Text_isNextSemicolon 20 (.getfield 19) 3 23 := ⟨by decide +kernel, rfl⟩
set_option maxRecDepth 100000 in
theorem d_Text_isNextSemicolon_23 : Dc m_Text_isNextSemicolon 23 .baload 1 24 := ⟨by decide +kernel, rfl⟩
set_option maxRecDepth 100000 in
theorem d_Text_isNextSemicolon_24 : Dc m_Text_isNextSemicolon 24 (.bipush (59)) 2 26 := ⟨by decide +kernel, rfl⟩
set_option maxRecDepth 100000 in
theorem d_Text_isNextSemicolon_26 : Dj m_Text_isNextSemicolon 26 (.if_icmp .eq) 29 31 := ⟨5, by decide +kernel, rfl, by decide⟩
set_option maxRecDepth 100000 in
theorem d_Text_isNextSemicolon_29 : Dc m_Text_isNextSemicolon 29 (.iconst 0) 1 30 := ⟨by decide +kernel, rfl⟩
set_option maxRecDepth 100000 in
theorem d_Text_isNextSemicolon_30 : Dc m_Text_isNextSemicolon 30 .ireturn 1 31 := ⟨by decide +kernel, rfl⟩
set_option maxRecDepth 100000 in
theorem d_Text_isNextSemicolon_31 : Dc m_Text_isNextSemicolon 31 (.aload_n 0) 1 32 := ⟨by decide +kernel, rfl⟩
set_option maxRecDepth 100000 in
theorem d_Text_isNextSemicolon_32 : Dc m_Text_isNextSemicolon 32 .dup 1 33 := ⟨by decide +kernel, rfl⟩
set_option maxRecDepth 100000 in
theorem d_Text_isNextSemicolon_33 : Dc m_Text_isNextSemicolon 33 (.getfield 19) 3 36 := ⟨by decide +kernel, rfl⟩
set_option maxRecDepth 100000 in
theorem d_Text_isNextSemicolon_36 : Dc m_Text_isNextSemicolon 36 (.iconst 1) 1 37 := ⟨by decide +kernel, rfl⟩
set_option maxRecDepth 100000 in
theorem d_Text_isNextSemicolon_37 : Dc m_Text_isNextSemicolon 37 .iadd 1 38 := ⟨by decide +kernel, rfl⟩
set_option maxRecDepth 100000 in
theorem d_Text_isNextSemicolon_38 : Dc m_Text_isNextSemicolon 38 (.putfield 19) 3 41 := ⟨by decide +kernel, rfl⟩
set_option maxRecDepth 100000 in
theorem d_Text_isNextSemicolon_41 : Dc m_Text_isNextSemicolon 41 (.iconst 1) 1 42 := ⟨by decide +kernel, rfl⟩
set_option maxRecDepth 100000 in
theorem d_Text_isNextSemicolon_42 : Dc m_Text_isNextSemicolon 42 .ireturn 1 43 := ⟨by decide +kernel, rfl⟩
set_option maxRecDepth 100000 in
theorem d_Text_endOfRow_0 : Dc m_Text_endOfRow 0 (.aload_n 0) 1 1 := ⟨by decide +kernel, rfl⟩
set_option maxRecDepth 100000 in
theorem d_Text_endOfRow_1 : Dc m_Text_endOfRow 1 (.getfield 19) 3 4 := ⟨by decide +kernel, rfl⟩
set_option maxRecDepth 100000 in
theorem d_Text_endOfRow_4 : Dc m_Text_endOfRow 4 (.istore_n 3) 1 5 := ⟨by decide +kernel, rfl⟩
set_option maxRecDepth 100000 in
theorem d_Text_endOfRow_5 : Dc m_Text_endOfRow 5 (.iload_n 3) 1 6 := ⟨by decide +kernel, rfl⟩
set_option maxRecDepth 100000 in
theorem d_Text_endOfRow_6 : Dc m_Text_endOfRow 6 (.aload_n 0) 1 7 := ⟨by decide +kernel, rfl⟩
set_option maxRecDepth 100000 in
theorem d_Text_endOfRow_7 : Dc m_Text_endOfRow 7 (.getfield 15) 3 10 := ⟨by decide +kernel, rfl⟩
set_option maxRecDepth 100000 in
theorem d_Text_endOfRow_10 : Dj m_Text_endOfRow 10 (.if_icmp .ge) 13 39 := ⟨29, by decide +kernel, rfl, by decide⟩
set_option maxRecDepth 100000 in
theorem d_Text_endOfRow_13 : Dc m_Text_endOfRow 13 (.aload_n 0) 1 14 := ⟨by decide +kernel, rfl⟩
set_option maxRecDepth 100000 in
theorem d_Text_endOfRow_14 : Dc m_Text_endOfRow 14 (.getfield 9) 3 17 := ⟨by decide +kernel, rfl⟩
set_option maxRecDepth 100000 in
theorem d_Text_endOfRow_17 : Dc m_Text_endOfRow 17 (.iload_n 3) 1 18 := ⟨by decide +kernel, rfl⟩
set_option maxRecDepth 100000 in
theorem d_Text_endOfRow_18 : Dc m_Text_endOfRow 18 .baload 1 19 := ⟨by decide +kernel, rfl⟩
set_option maxRecDepth 100000 in
theorem d_Text_endOfRow_19 : Dc m_Text_endOfRow 19 (.iload_n 1) 1 20 := ⟨by decide +kernel, rfl⟩
set_option maxRecDepth 100000 in
theorem d_Text_endOfRow_20 : Dj m_Text_endOfRow 20 (.if_icmp .lt) 23 39 := ⟨19, by decide +kernel, rfl, by decide⟩
set_option maxRecDepth 100000 in
theorem d_Text_endOfRow_23 : Dc m_Text_endOfRow 23 (.aload_n 0) 1 24 := ⟨by decide +kernel, rfl⟩
set_option maxRecDepth 100000 in
theorem d_Text_endOfRow_24 : Dc m_Text_endOfRow 24 (.getfield 9) 3 27 := ⟨by decide +kernel, rfl⟩
set_option maxRecDepth 100000 in
theorem d_Text_endOfRow_27 : Dc m_Text_endOfRow 27 (.iload_n 3) 1 28 := ⟨by decide +kernel, rfl⟩
set_option maxRecDepth 100000 in
theorem d_Text_endOfRow_28 : Dc m_Text_endOfRow 28 .baload 1 29 := ⟨by decide +kernel, rfl⟩
set_option maxRecDepth 100000 in
theorem d_Text_endOfRow_29 : Dc m_Text_endOfRow 29 (.iload_n 2) 1 30 := ⟨by decide +kernel, rfl⟩
set_option maxRecDepth 100000 in
theorem d_Text_endOfRow_30 : Dj m_Text_endOfRow 30 (.if_icmp .gt) 33 39 := ⟨9, by decide +kernel, rfl, by decide⟩
set_option maxRecDepth 100000 in
theorem d_Text_endOfRow_33 : Dc m_Text_endOfRow 33 (.iinc 3 (1)) 3 36 := ⟨by decide +kernel, rfl⟩
set_option maxRecDepth 100000 in
theorem d_Text_endOfRow_36 : Dj m_Text_endOfRow 36 .goto 39 5 := ⟨-31, by decide +kernel, rfl, by decide⟩
set_option maxRecDepth 100000 in
theorem d_Text_endOfRow_39 : Dc m_Text_endOfRow 39 (.iload_n 3) 1 40 := ⟨by decide +kernel, rfl⟩
set_option maxRecDepth 100000 in
theorem d_Text_endOfRow_40 : Dc m_Text_endOfRow 40 .ireturn 1 41 := ⟨by decide +kernel, rfl⟩
set_option maxRecDepth 100000 in
theorem d_Text_skipBlanks_0 : Dc m_Text_skipBlanks 0 (.aload_n 0) 1 1 := ⟨by decide +kernel, rfl⟩
set_option maxRecDepth 100000 in
theorem d_Text_skipBlanks_1 : Dc m_Text_skipBlanks 1 (.getfield 19) 3 4 := ⟨by decide +kernel, rfl⟩
set_option maxRecDepth 100000 in
theorem d_Text_skipBlanks_4 : Dc m_Text_skipBlanks 4 (.aload_n 0) 1 5 := ⟨by decide +kernel, rfl⟩
set_option maxRecDepth 100000 in
theorem d_Text_skipBlanks_5 : Dc m_Text_skipBlanks 5 (.getfield 15) 3 8 := ⟨by decide +kernel, rfl⟩
set_option maxRecDepth 100000 in
theorem d_Text_skipBlanks_8 : Dj m_Text_skipBlanks 8 (.if_icmp .ge) 11 38 := ⟨30, by decide +kernel, rfl, by decide⟩
set_option maxRecDepth 100000 in
theorem d_Text_skipBlanks_11 : Dc m_Text_skipBlanks 11 (.aload_n 0) 1 12 := ⟨by decide +kernel, rfl⟩
set_option maxRecDepth 100000 in
theorem d_Text_skipBlanks_12 : Dc m_Text_skipBlanks 12 (.getfield 9) 3 15 := ⟨by decide +kernel, rfl⟩
set_option maxRecDepth 100000 in
theorem d_Text_skipBlanks_15 : Dc m_Text_skipBlanks 15 (.aload_n 0) 1 16 := ⟨by decide +kernel, rfl⟩
set_option maxRecDepth 100000 in
theorem d_Text_skipBlanks_16 : Dc m_Text_skipBlanks 16 (.getfield 19) 3 19 := ⟨by decide +kernel, rfl⟩
set_option maxRecDepth 100000 in
theorem d_Text_skipBlanks_19 : Dc m_Text_skipBlanks 19 .baload 1 20 := ⟨by decide +kernel, rfl⟩
set_option maxRecDepth 100000 in
theorem d_Text_skipBlanks_20 : Dc m_Text_skipBlanks 20 (.bipush (32)) 2 22 := ⟨by decide +kernel, rfl⟩
set_option maxRecDepth 100000 in
theorem d_Text_skipBlanks_22 : Dj m_Text_skipBlanks 22 (.if_icmp .ne) 25 38 := ⟨16, by decide +kernel, rfl, by decide⟩
set_option maxRecDepth 100000 in
theorem d_Text_skipBlanks_25 : Dc m_Text_skipBlanks 25 (.aload_n 0) 1 26 := ⟨by decide +kernel, rfl⟩
set_option maxRecDepth 100000 in
theorem d_Text_skipBlanks_26 : Dc m_Text_skipBlanks 26 .dup 1 27 := ⟨by decide +kernel, rfl⟩
set_option maxRecDepth 100000 in
theorem d_Text_skipBlanks_27 : Dc m_Text_skipBlanks 27 (.getfield 19) 3 30 := ⟨by decide +kernel, rfl⟩
set_option maxRecDepth 100000 in
theorem d_Text_skipBlanks_30 : Dc m_Text_skipBlanks 30 (.iconst 1) 1 31 := ⟨by decide +kernel, rfl⟩
set_option maxRecDepth 100000 in
theorem d_Text_skipBlanks_31 : Dc m_Text_skipBlanks 31 .iadd 1 32 := ⟨by decide +kernel, rfl⟩
set_option maxRecDepth 100000 in
theorem d_Text_skipBlanks_32 : Dc m_Text_skipBlanks 32 (.putfield 19) 3 35 := ⟨by decide +kernel, rfl⟩
set_option maxRecDepth 100000 in
theorem d_Text_skipBlanks_35 : Dj m_Text_skipBlanks 35 .goto 38 0 := ⟨-35, by decide +kernel, rfl, by decide⟩
set_option maxRecDepth 100000 in
theorem d_Text_skipBlanks_38 : Dc m_Text_skipBlanks 38 .return_ 1 39 := ⟨by decide +kernel, rfl⟩
