set_option maxRecDepth 100000 in
theorem d_M_hardest_10 : Dc m_M_hardest 10 (.getfield 7) 3 13 := ⟨by decide +kernel, rfl⟩
set_option maxRecDepth 100000 in
theorem d_M_hardest_13 : Dc m_M_hardest 13 (.iconst 0) 1 14 := ⟨by decide +kernel, rfl⟩
set_option maxRecDepth 100000 in
theorem d_M_hardest_14 : Dc m_M_hardest 14 .iaload 1 15 := ⟨by decide +kernel, rfl⟩
set_option maxRecDepth 100000 in
theorem d_M_hardest_15 : Dj m_M_hardest 15 (.ifCond .ne) 18 21 := ⟨6, by decide +kernel, rfl, by decide⟩
set_option maxRecDepth 100000 in
theorem d_M_hardest_18 : Dc m_M_hardest 18 (.bipush (-3)) 2 20 := ⟨by decide +kernel, rfl⟩
set_option maxRecDepth 100000 in
theorem d_M_hardest_20 : Dc m_M_hardest 20 .ireturn 1 21 := ⟨by decide +kernel, rfl⟩
set_option maxRecDepth 100000 in
theorem d_M_hardest_21 : Dc m_M_hardest 21 (.iconst (-1)) 1 22 := ⟨by decide +kernel, rfl⟩
set_option maxRecDepth 100000 in
theorem d_M_hardest_22 : Dc m_M_hardest 22 (.istore_n 2) 1 23 := ⟨by decide +kernel, rfl⟩
set_option maxRecDepth 100000 in
theorem d_M_hardest_23 : Dc m_M_hardest 23 (.iconst 0) 1 24 := ⟨by decide +kernel, rfl⟩
set_option maxRecDepth 100000 in
theorem d_M_hardest_24 : Dc m_M_hardest 24 (.istore_n 3) 1 25 := ⟨by decide +kernel, rfl⟩
set_option maxRecDepth 100000 in
theorem d_M_hardest_25 : Dc m_M_hardest 25 (.iconst 0) 1 26 := ⟨by decide +kernel, rfl⟩
set_option maxRecDepth 100000 in
theorem d_M_hardest_26 : Dc m_M_hardest 26 (.istore 4) 2 28 := ⟨by decide +kernel, rfl⟩
set_option maxRecDepth 100000 in
theorem d_M_hardest_28 : Dc m_M_hardest 28 (.iload 4) 2 30 := ⟨by decide +kernel, rfl⟩
set_option maxRecDepth 100000 in
theorem d_M_hardest_30 : Dc m_M_hardest 30 (.bipush (36)) 2 32 := ⟨by decide +kernel, rfl⟩
set_option maxRecDepth 100000 in
theorem d_M_hardest_32 : Dj m_M_hardest 32 (.if_icmp .ge) 35 102 := ⟨70, by decide +kernel, rfl, by decide⟩
set_option maxRecDepth 100000 in
theorem d_M_hardest_35 : Dc m_M_hardest 35 (.iconst 0) 1 36 := ⟨by decide +kernel, rfl⟩
set_option maxRecDepth 100000 in
theorem d_M_hardest_36 : Dc m_M_hardest 36 (.istore 5) 2 38 := ⟨by decide +kernel, rfl⟩
set_option maxRecDepth 100000 in
theorem d_M_hardest_38 : Dc m_M_hardest 38 (.iconst 0) 1 39 := ⟨by decide +kernel, rfl⟩
set_option maxRecDepth 100000 in
theorem d_M_hardest_39 : Dc m_M_hardest 39 (.istore 6) 2 41 := ⟨by decide +kernel, rfl⟩
set_option maxRecDepth 100000 in
theorem d_M_hardest_41 : Dc m_M_hardest 41 (.iload 6) 2 43 := ⟨by decide +kernel, rfl⟩
set_option maxRecDepth 100000 in
theorem d_M_hardest_43 : Dc m_M_hardest 43 (.aload_n 0) 1 44 := ⟨by decide +kernel, rfl⟩
set_option maxRecDepth 100000 in
theorem d_M_hardest_44 : Dc m_M_hardest 44 (.getfield 7) 3 47 := ⟨by decide +kernel, rfl⟩
set_option maxRecDepth 100000 in
theorem d_M_hardest_47 : Dc m_M_hardest 47 (.iconst 0) 1 48 := ⟨by decide +kernel, rfl⟩
set_option maxRecDepth 100000 in
theorem d_M_hardest_48 : Dc m_M_hardest 48 .iaload 1 49 := ⟨by decide +kernel, rfl⟩
set_option maxRecDepth 100000 in
theorem d_M_hardest_49 : Dj m_M_hardest 49 (.if_icmp .ge) 52 80 := ⟨31, by decide +kernel, rfl, by decide⟩
set_option maxRecDepth 100000 in
theorem d_M_hardest_52 : Dc m_M_hardest 52 (.iload 5) 2 54 := ⟨by decide +kernel, rfl⟩
set_option maxRecDepth 100000 in
theorem d_M_hardest_54 : Dc m_M_hardest 54 (.aload_n 0) 1 55 := ⟨by decide +kernel, rfl⟩
set_option maxRecDepth 100000 in
theorem d_M_hardest_55 : Dc m_M_hardest 55 (.iload 6) 2 57 := ⟨by decide +kernel, rfl⟩
set_option maxRecDepth 100000 in
theorem d_M_hardest_57 : Dc m_M_hardest 57 (.iload 4) 2 59 := ⟨by decide +kernel, rfl⟩
set_option maxRecDepth 100000 in
theorem d_M_hardest_59 : Dc m_M_hardest 59 (.iload_n 1) 1 60 := ⟨by decide +kernel, rfl⟩
set_option maxRecDepth 100000 in
theorem d_M_hardest_60 : Dc m_M_hardest 60 (.invokevirtual 193) 3 63 := ⟨by decide +kernel, rfl⟩
set_option maxRecDepth 100000 in
theorem d_M_hardest_63 : Dj m_M_hardest 63 (.ifCond .eq) 66 70 := ⟨7, by decide +kernel, rfl, by decide⟩
set_option maxRecDepth 100000 in
theorem d_M_hardest_66 : Dc m_M_hardest 66 (.iconst 1) 1 67 := ⟨by decide +kernel, rfl⟩
set_option maxRecDepth 100000 in
theorem d_M_hardest_67 : Dj m_M_hardest 67 .goto 70 71 := ⟨4, by decide +kernel, rfl, by decide⟩
set_option maxRecDepth 100000 in
theorem d_M_hardest_70 : Dc m_M_hardest 70 (.iconst 0) 1 71 := ⟨by decide +kernel, rfl⟩
set_option maxRecDepth 100000 in
theorem d_M_hardest_71 : Dc m_M_hardest 71 .iadd 1 72 := ⟨by decide +kernel, rfl⟩
set_option maxRecDepth 100000 in
theorem d_M_hardest_72 : Dc m_M_hardest 72 (.istore 5) 2 74 := ⟨by decide +kernel, rfl⟩
set_option maxRecDepth 100000 in
theorem d_M_hardest_74 : Dc m_M_hardest 74 (.iinc 6 (1)) 3 77 := ⟨by decide +kernel, rfl⟩
set_option maxRecDepth 100000 in
theorem d_M_hardest_77 : Dj m_M_hardest 77 .goto 80 41 := ⟨-36, by decide +kernel, rfl, by decide⟩
set_option maxRecDepth 100000 in
theorem d_M_hardest_80 : Dc m_M_hardest 80 (.iload_n 2) 1 81 := ⟨by decide +kernel, rfl⟩
set_option maxRecDepth 100000 in
theorem d_M_hardest_81 : Dj m_M_hardest 81 (.ifCond .lt) 84 90 := ⟨9, by decide +kernel, rfl, by decide⟩
set_option maxRecDepth 100000 in
theorem d_M_hardest_84 : Dc m_M_hardest 84 (.iload 5) 2 86 := ⟨by decide +kernel, rfl⟩
set_option maxRecDepth 100000 in
theorem d_M_hardest_86 : Dc m_M_hardest 86 (.iload_n 3) 1 87 := ⟨by decide +kernel, rfl⟩
set_option maxRecDepth 100000 in
theorem d_M_hardest_87 : Dj m_M_hardest 87 (.if_icmp .ge) 90 96 := ⟨9, by decide +kernel, rfl, by decide⟩
set_option maxRecDepth 100000 in
theorem d_M_hardest_90 : Dc m_M_hardest 90 (.iload 4) 2 92 := ⟨by decide +kernel, rfl⟩
set_option maxRecDepth 100000 in
theorem d_M_hardest_92 : Dc m_M_hardest 92 (.istore_n 2) 1 93 := ⟨by decide +kernel, rfl⟩
set_option maxRecDepth 100000 in
theorem d_M_hardest_93 : Dc m_M_hardest 93 (.iload 5) 2 95 := ⟨by decide +kernel, rfl⟩
set_option maxRecDepth 100000 in
theorem d_M_hardest_95 : Dc m_M_hardest 95 (.istore_n 3) 1 96 := ⟨by decide +kernel, rfl⟩
set_option maxRecDepth 100000 in
theorem d_M_hardest_96 : Dc m_M_hardest 96 (.iinc 4 (1)) 3 99 := ⟨by decide +kernel, rfl⟩
set_option maxRecDepth 100000 in
theorem d_M_hardest_99 : Dj m_M_hardest 99 .goto 102 28 := ⟨-71, by decide +kernel, rfl, by decide⟩
set_option maxRecDepth 100000 in
theorem d_M_hardest_102 : Dc m_M_hardest 102 (.iload_n 2) 1 103 := ⟨by decide +kernel, rfl⟩
set_option maxRecDepth 100000 in
theorem d_M_hardest_103 : Dc m_M_hardest 103 .ireturn 1 104 := ⟨by decide +kernel, rfl⟩
set_option maxRecDepth 100000 in
theorem d_M_draws_0 : Dc m_M_draws 0 (.aload_n 0) 1 1 := ⟨by decide +kernel, rfl⟩
set_option maxRecDepth 100000 in
theorem d_M_draws_1 : Dc m_M_draws 1 (.iload_n 1) 1 2 := ⟨by decide +kernel, rfl⟩
set_option maxRecDepth 100000 in
theorem d_M_draws_2 : Dc m_M_draws 2 (.invokevirtual 115) 3 5 := ⟨by decide +kernel, rfl⟩
set_option maxRecDepth 100000 in
theorem d_M_draws_5 : Dj m_M_draws 5 (.ifCond .eq) 8 22 := ⟨17, by decide +kernel, rfl, by decide⟩
set_option maxRecDepth 100000 in
theorem d_M_draws_8 : Dc m_M_draws 8 (.iload_n 2) 1 9 := ⟨by decide +kernel, rfl⟩
set_option maxRecDepth 100000 in
theorem d_M_draws_9 : Dc m_M_draws 9 (.invokestatic 142) 3 12 := ⟨by decide +kernel, rfl⟩
set_option maxRecDepth 100000 in
theorem d_M_draws_12 : Dj m_M_draws 12 (.ifCond .eq) 15 22 := ⟨10, by decide +kernel, rfl, by decide⟩
set_option maxRecDepth 100000 in
theorem d_M_draws_15 : Dc m_M_draws 15 (.iload_n 3) 1 16 := ⟨by decide +kernel, rfl⟩
set_option maxRecDepth 100000 in
theorem d_M_draws_16 : Dc m_M_draws 16 (.invokestatic 209) 3 19 := ⟨by decide +kernel, rfl⟩
set_option maxRecDepth 100000 in
theorem d_M_draws_19 : Dj m_M_draws 19 (.ifCond .ne) 22 24 := ⟨5, by decide +kernel, rfl, by decide⟩
set_option maxRecDepth 100000 in
theorem d_M_draws_22 : Dc m_M_draws 22 (.iconst (-1)) 1 23 := ⟨by decide +kernel, rfl⟩
set_option maxRecDepth 100000 in
theorem d_M_draws_23 : Dc m_M_draws 23 .ireturn 1 24 := ⟨by decide +kernel, rfl⟩
set_option maxRecDepth 100000 in
theorem d_M_draws_24 : Dc m_M_draws 24 (.iconst 0) 1 25 := ⟨by decide +kernel, rfl⟩
set_option maxRecDepth 100000 in
theorem d_M_draws_25 : Dc m_M_draws 25 (.istore 4) 2 27 := ⟨by decide +kernel, rfl⟩
set_option maxRecDepth 100000 in
theorem d_M_draws_27 : Dc m_M_draws 27 (.iload 4) 2 29 := ⟨by decide +kernel, rfl⟩
set_option maxRecDepth 100000 in
theorem d_M_draws_29 : Dc m_M_draws 29 (.bipush (36)) 2 31 := ⟨by decide +kernel, rfl⟩
set_option maxRecDepth 100000 in
theorem d_M_draws_31 : Dj m_M_draws 31 (.if_icmp .ge) 34 48 := ⟨17, by decide +kernel, rfl, by decide⟩
set_option maxRecDepth 100000 in
theorem d_M_draws_34 : Dc m_M_draws 34 (.aload_n 0) 1 35 := ⟨by decide +kernel, rfl⟩
set_option maxRecDepth 100000 in
theorem d_M_draws_35 : Dc m_M_draws 35 (.getfield 26) 3 38 := ⟨by decide +kernel, rfl⟩
set_option maxRecDepth 100000 in
theorem d_M_draws_38 : Dc m_M_draws 38 (.iload 4) 2 40 := ⟨by decide +kernel, rfl⟩
set_option maxRecDepth 100000 in
theorem d_M_draws_40 : Dc m_M_draws 40 (.iconst 0) 1 41 := ⟨by decide +kernel, rfl⟩
set_option maxRecDepth 100000 in
theorem d_M_draws_41 : Dc m_M_draws 41 .iastore 1 42 := ⟨by decide +kernel, rfl⟩
set_option maxRecDepth 100000 in
theorem d_M_draws_42 : Dc m_M_draws 42 (.iinc 4 (1)) 3 45 := ⟨by decide +kernel, rfl⟩
set_option maxRecDepth 100000 in
theorem d_M_draws_45 : Dj m_M_draws 45 .goto 48 27 := ⟨-18, by decide +kernel, rfl, by decide⟩
set_option maxRecDepth 100000 in
theorem d_M_draws_48 : Dc m_M_draws 48 (.iconst 0) 1 49 := ⟨by decide +kernel, rfl⟩
set_option maxRecDepth 100000 in
theorem d_M_draws_49 : Dc m_M_draws 49 (.istore 4) 2 51 := ⟨by decide +kernel, rfl⟩
set_option maxRecDepth 100000 in
theorem d_M_draws_51 : Dc m_M_draws 51 (.iload 4) 2 53 := ⟨by decide +kernel, rfl⟩
set_option maxRecDepth 100000 in
theorem d_M_draws_53 : Dc m_M_draws 53 (.bipush (36)) 2 55 := ⟨by decide +kernel, rfl⟩
set_option maxRecDepth 100000 in
theorem d_M_draws_55 : Dj m_M_draws 55 (.if_icmp .ge) 58 93 := ⟨38, by decide +kernel, rfl, by decide⟩
set_option maxRecDepth 100000 in
theorem d_M_draws_58 : Dc m_M_draws 58 (.aload_n 0) 1 59 := ⟨by decide +kernel, rfl⟩
set_option maxRecDepth 100000 in
theorem d_M_draws_59 : Dc m_M_draws 59 (.iload_n 1) 1 60 := ⟨by decide +kernel, rfl⟩
set_option maxRecDepth 100000 in
theorem d_M_draws_60 : Dc m_M_draws 60 (.iload 4) 2 62 := ⟨by decide +kernel, rfl⟩
set_option maxRecDepth 100000 in
theorem d_M_draws_62 : Dc m_M_draws 62 (.iload_n 2) 1 63 := ⟨by decide +kernel, rfl⟩
set_option maxRecDepth 100000 in
theorem d_M_draws_63 : Dc m_M_draws 63 (.invokevirtual 173) 3 66 := ⟨by decide +kernel, rfl⟩
set_option maxRecDepth 100000 in
theorem d_M_draws_66 : Dc m_M_draws 66 (.aload_n 0) 1 67 := ⟨by decide +kernel, rfl⟩
set_option maxRecDepth 100000 in
theorem d_M_draws_67 : Dc m_M_draws 67 (.getfield 161) 3 70 := ⟨by decide +kernel, rfl⟩
set_option maxRecDepth 100000 in
theorem d_M_draws_70 : Dc m_M_draws 70 (.iconst 2) 1 71 := ⟨by decide +kernel, rfl⟩
set_option maxRecDepth 100000 in
theorem d_M_draws_71 : Dj m_M_draws 71 (.if_icmp .ne) 74 87 := ⟨16, by decide +kernel, rfl, by decide⟩
set_option maxRecDepth 100000 in
theorem d_M_draws_74 : Dc m_M_draws 74 (.aload_n 0) 1 75 := ⟨by decide +kernel, rfl⟩
set_option maxRecDepth 100000 in
theorem d_M_draws_75 : Dc m_M_draws 75 (.getfield 26) 3 78 := ⟨by decide +kernel, rfl⟩
set_option maxRecDepth 100000 in
theorem d_M_draws_78 : Dc m_M_draws 78 (.aload_n 0) 1 79 := ⟨by decide +kernel, rfl⟩
set_option maxRecDepth 100000 in
theorem d_M_draws_79 : Dc m_M_draws 79 (.getfield 158) 3 82 := ⟨by decide +kernel, rfl⟩
set_option maxRecDepth 100000 in
theorem d_M_draws_82 : Dc m_M_draws 82 .dup2 1 83 := ⟨by decide +kernel, rfl⟩
set_option maxRecDepth 100000 in
theorem d_M_draws_83 : Dc m_M_draws 83 .iaload 1 84 := ⟨by decide +kernel, rfl⟩
set_option maxRecDepth 100000 in
theorem d_M_draws_84 : Dc m_M_draws 84 (.iconst 1) 1 85 := ⟨by decide +kernel, rfl⟩
set_option maxRecDepth 100000 in
theorem d_M_draws_85 : Dc m_M_draws 85 .iadd 1 86 := ⟨by decide +kernel, rfl⟩
set_option maxRecDepth 100000 in
theorem d_M_draws_86 : Dc m_M_draws 86 .iastore 1 87 := ⟨by decide +kernel, rfl⟩
set_option maxRecDepth 100000 in
theorem d_M_draws_87 : Dc m_M_draws 87 (.iinc 4 (1)) 3 90 := ⟨by decide +kernel, rfl⟩
set_option maxRecDepth 100000 in
theorem d_M_draws_90 : Dj m_M_draws 90 .goto 93 51 := ⟨-39, by decide +kernel, rfl, by decide⟩
set_option maxRecDepth 100000 in
theorem d_M_draws_93 : Dc m_M_draws 93 (.iconst 0) 1 94 := ⟨by decide +kernel, rfl⟩
set_option maxRecDepth 100000 in
theorem d_M_draws_94 : Dc m_M_draws 94 (.istore 4) 2 96 := ⟨by decide +kernel, rfl⟩
set_option maxRecDepth 100000 in
theorem d_M_draws_96 : Dc m_M_draws 96 (.iconst 1) 1 97 := ⟨by decide +kernel, rfl⟩
set_option maxRecDepth 100000 in
theorem d_M_draws_97 : Dc m_M_draws 97 (.istore 5) 2 99 := ⟨by decide +kernel, rfl⟩
set_option maxRecDepth 100000 in
theorem d_M_draws_99 : Dc m_M_draws 99 (.iload 5) 2 101 := ⟨by decide +kernel, rfl⟩
set_option maxRecDepth 100000 in
theorem d_M_draws_101 : Dc m_M_draws 101 (.bipush (36)) 2 103 := ⟨by decide +kernel, rfl⟩
set_option maxRecDepth 100000 in
theorem d_M_draws_103 : Dj m_M_draws 103 (.if_icmp .ge) 106 138 := ⟨35, by decide +kernel, rfl, by decide⟩
set_option maxRecDepth 100000 in
theorem d_M_draws_106 : Dc m_M_draws 106 (.aload_n 0) 1 107 := ⟨by decide +kernel, rfl⟩
set_option maxRecDepth 100000 in
theorem d_M_draws_107 : Dc m_M_draws 107 (.getfield 26) 3 110 := ⟨by decide +kernel, rfl⟩
set_option maxRecDepth 100000 in
theorem d_M_draws_110 : Dc m_M_draws 110 (.iload 5) 2 112 := ⟨by decide +kernel, rfl⟩
set_option maxRecDepth 100000 in
theorem d_M_draws_112 : Dc m_M_draws 112 .iaload 1 113 := ⟨by decide +kernel, rfl⟩
set_option maxRecDepth 100000 in
theorem d_M_draws_113 : Dc m_M_draws 113 (.aload_n 0) 1 114 := ⟨by decide +kernel, rfl⟩
set_option maxRecDepth 100000 in
theorem d_M_draws_114 : Dc m_M_draws 114 (.getfield 26) 3 117 := ⟨by decide +kernel, rfl⟩
set_option maxRecDepth 100000 in
theorem d_M_draws_117 : Dc m_M_draws 117 (.iload 4) 2 119 := ⟨by decide +kernel, rfl⟩
set_option maxRecDepth 100000 in
theorem d_M_draws_119 : Dc m_M_draws 119 .iaload 1 120 := ⟨by decide +kernel, rfl⟩
set_option maxRecDepth 100000 in
theorem d_M_draws_120 : Dj m_M_draws 120 (.if_icmp .le) 123 128 := ⟨8, by decide +kernel, rfl, by decide⟩
set_option maxRecDepth 100000 in
theorem d_M_draws_123 : Dc m_M_draws 123 (.iload 5) 2 125 := ⟨by decide +kernel, rfl⟩
set_option maxRecDepth 100000 in
theorem d_M_draws_125 : Dj m_M_draws 125 .goto 128 130 := ⟨5, by decide +kernel, rfl, by decide⟩
set_option maxRecDepth 100000 in
theorem d_M_draws_128 : Dc m_M_draws 128 (.iload 4) 2 130 := ⟨by decide +kernel, rfl⟩
set_option maxRecDepth 100000 in
theorem d_M_draws_130 : Dc m_M_draws 130 (.istore 4) 2 132 := ⟨by decide +kernel, rfl⟩
set_option maxRecDepth 100000 in
theorem d_M_draws_132 : Dc m_M_draws 132 (.iinc 5 (1)) 3 135 := ⟨by decide +kernel, rfl⟩
set_option maxRecDepth 100000 in
theorem d_M_draws_135 : Dj m_M_draws 135 .goto 138 99 := ⟨-36, by decide +kernel, rfl, by decide⟩
set_option maxRecDepth 100000 in
theorem d_M_draws_138 : Dc m_M_draws 138 (.aload_n 0) 1 139 := ⟨by decide +kernel, rfl⟩
set_option maxRecDepth 100000 in
theorem d_M_draws_139 : Dc m_M_draws 139 (.getfield 26) 3 142 := ⟨by decide +kernel, rfl⟩
set_option maxRecDepth 100000 in
theorem d_M_draws_142 : Dc m_M_draws 142 (.iload 4) 2 144 := ⟨by decide +kernel, rfl⟩
set_option maxRecDepth 100000 in
theorem d_M_draws_144 : Dc m_M_draws 144 .iaload 1 145 := ⟨by decide +kernel, rfl⟩
set_option maxRecDepth 100000 in
theorem d_M_draws_145 : Dj m_M_draws 145 (.ifCond .ne) 148 153 := ⟨8, by decide +kernel, rfl, by decide⟩
set_option maxRecDepth 100000 in
theorem d_M_draws_148 : Dc m_M_draws 148 (.bipush (-3)) 2 150 := ⟨by decide +kernel, rfl⟩
set_option maxRecDepth 100000 in
theorem d_M_draws_150 : Dj m_M_draws 150 .goto 153 169 := ⟨19, by decide +kernel, rfl, by decide⟩
set_option maxRecDepth 100000 in
theorem d_M_draws_153 : Dc m_M_draws 153 (.iload_n 3) 1 154 := ⟨by decide +kernel, rfl⟩
set_option maxRecDepth 100000 in
theorem d_M_draws_154 : Dj m_M_draws 154 (.ifCond .ne) 157 162 := ⟨8, by decide +kernel, rfl, by decide⟩
set_option maxRecDepth 100000 in
theorem d_M_draws_157 : Dc m_M_draws 157 (.iload 4) 2 159 := ⟨by decide +kernel, rfl⟩
set_option maxRecDepth 100000 in
theorem d_M_draws_159 : Dj m_M_draws 159 .goto 162 169 := ⟨10, by decide +kernel, rfl, by decide⟩
set_option maxRecDepth 100000 in
theorem d_M_draws_162 : Dc m_M_draws 162 (.aload_n 0) 1 163 := ⟨by decide +kernel, rfl⟩
set_option maxRecDepth 100000 in
theorem d_M_draws_163 : Dc m_M_draws 163 (.getfield 26) 3 166 := ⟨by decide +kernel, rfl⟩
set_option maxRecDepth 100000 in
theorem d_M_draws_166 : Dc m_M_draws 166 (.iload 4) 2 168 := ⟨by decide +kernel, rfl⟩
set_option maxRecDepth 100000 in
theorem d_M_draws_168 : Dc m_M_draws 168 .iaload 1 169 := ⟨by decide +kernel, rfl⟩
set_option maxRecDepth 100000 in
theorem d_M_draws_169 : Dc m_M_draws 169 .ireturn 1 170 := ⟨by decide +kernel, rfl⟩
set_option maxRecDepth 100000 in
theorem d_M_feed_0 : Dc m_M_feed 0 (.iload_n 3) 1 1 := ⟨by decide +kernel, rfl⟩
set_option maxRecDepth 100000 in
theorem d_M_feed_1 : Dc m_M_feed 1 (.iconst 1) 1 2 := ⟨by decide +kernel, rfl⟩
set_option maxRecDepth 100000 in
theorem d_M_feed_2 : Dc m_M_feed 2 (.bipush (8)) 2 4 := ⟨by decide +kernel, rfl⟩
set_option maxRecDepth 100000 in
theorem d_M_feed_4 : Dc m_M_feed 4 (.invokestatic 72) 3 7 := ⟨by decide +kernel, rfl⟩
set_option maxRecDepth 100000 in
theorem d_M_feed_7 : Dj m_M_feed 7 (.ifCond .ne) 10 12 := ⟨5, by decide +kernel, rfl, by decide⟩
set_option maxRecDepth 100000 in
theorem d_M_feed_10 : Dc m_M_feed 10 (.iconst (-1)) 1 11 := ⟨by decide +kernel, rfl⟩
set_option maxRecDepth 100000 in
theorem d_M_feed_11 : Dc m_M_feed 11 .ireturn 1 12 := ⟨by decide +kernel, rfl⟩
set_option maxRecDepth 100000 in
theorem d_M_feed_12 : Dc m_M_feed 12 (.aload_n 0) 1 13 := ⟨by decide +kernel, rfl⟩
set_option maxRecDepth 100000 in
theorem d_M_feed_13 : Dc m_M_feed 13 (.getfield 225) 3 16 := ⟨by decide +kernel, rfl⟩
set_option maxRecDepth 100000 in
theorem d_M_feed_16 : Dc m_M_feed 16 (.iload_n 3) 1 17 := ⟨by decide +kernel, rfl⟩
set_option maxRecDepth 100000 in
theorem d_M_feed_17 : Dc m_M_feed 17 .iadd 1 18 := ⟨by decide +kernel, rfl⟩
set_option maxRecDepth 100000 in
theorem d_M_feed_18 : Dc m_M_feed 18 (.sipush (200)) 3 21 := ⟨by decide +kernel, rfl⟩
set_option maxRecDepth 100000 in
theorem d_M_feed_21 : Dj m_M_feed 21 (.if_icmp .le) 24 27 := ⟨6, by decide +kernel, rfl, by decide⟩
set_option maxRecDepth 100000 in
theorem d_M_feed_24 : Dc m_M_feed 24 (.bipush (-2)) 2 26 := ⟨by decide +kernel, rfl⟩
set_option maxRecDepth 100000 in
theorem d_M_feed_26 : Dc m_M_feed 26 .ireturn 1 27 := ⟨by decide +kernel, rfl⟩
set_option maxRecDepth 100000 in
theorem d_M_feed_27 : Dc m_M_feed 27 (.iconst 0) 1 28 := ⟨by decide +kernel, rfl⟩
set_option maxRecDepth 100000 in
theorem d_M_feed_28 : Dc m_M_feed 28 (.istore 4) 2 30 := ⟨by decide +kernel, rfl⟩
set_option maxRecDepth 100000 in
theorem d_M_feed_30 : Dc m_M_feed 30 (.iload 4) 2 32 := ⟨by decide +kernel, rfl⟩
set_option maxRecDepth 100000 in
theorem d_M_feed_32 : Dc m_M_feed 32 (.iload_n 3) 1 33 := ⟨by decide +kernel, rfl⟩
set_option maxRecDepth 100000 in
theorem d_M_feed_33 : Dj m_M_feed 33 (.if_icmp .ge) 36 73 := ⟨40, by decide +kernel, rfl, by decide⟩
set_option maxRecDepth 100000 in
theorem d_M_feed_36 : Dc m_M_feed 36 (.aload_n 0) 1 37 := ⟨by decide +kernel, rfl⟩
set_option maxRecDepth 100000 in
theorem d_M_feed_37 : Dc m_M_feed 37 (.getfield 29) 3 40 := ⟨by decide +kernel, rfl⟩
set_option maxRecDepth 100000 in
theorem d_M_feed_40 : Dc m_M_feed 40 (.aload_n 0) 1 41 := ⟨by decide +kernel, rfl⟩
set_option maxRecDepth 100000 in
theorem d_M_feed_41 : Dc m_M_feed 41 (.getfield 225) 3 44 := ⟨by decide +kernel, rfl⟩
set_option maxRecDepth 100000 in
theorem d_M_feed_44 : Dc m_M_feed 44 (.lload_n 1) 1 45 := ⟨by decide +kernel, rfl⟩
set_option maxRecDepth 100000 in
theorem d_M_feed_45 : Dc m_M_feed 45 (.bipush (8)) 2 47 := ⟨by decide +kernel, rfl⟩
set_option maxRecDepth 100000 in
theorem d_M_feed_47 : Dc m_M_feed 47 (.iload 4) 2 49 := ⟨by decide +kernel, rfl⟩
set_option maxRecDepth 100000 in
theorem d_M_feed_49 : Dc m_M_feed 49 .imul 1 50 := ⟨by decide +kernel, rfl⟩
set_option maxRecDepth 100000 in
theorem d_M_feed_50 : Dc m_M_feed 50 .lshr 1 51 := ⟨by decide +kernel, rfl⟩
set_option maxRecDepth 100000 in
theorem d_M_feed_51 : Dc m_M_feed 51 (.ldc2_w 228) 3 54 := ⟨by decide +kernel, rfl⟩
set_option maxRecDepth 100000 in
theorem d_M_feed_54 : Dc m_M_feed 54 .land 1 55 := ⟨by decide +kernel, rfl⟩
set_option maxRecDepth 100000 in
theorem d_M_feed_55 : Dc m_M_feed 55 .l2i 1 56 := ⟨by decide +kernel, rfl⟩
set_option maxRecDepth 100000 in
theorem d_M_feed_56 : Dc m_M_feed 56 .iastore 1 57 := ⟨by decide +kernel, rfl⟩
set_option maxRecDepth 100000 in
theorem d_M_feed_57 : Dc m_M_feed 57 (.aload_n 0) 1 58 := ⟨by decide +kernel, rfl⟩
set_option maxRecDepth 100000 in
theorem d_M_feed_58 : Dc m_M_feed 58 .dup 1 59 := ⟨by decide +kernel, rfl⟩
set_option maxRecDepth 100000 in
theorem d_M_feed_59 : Dc m_M_feed 59 (.getfield 225) 3 62 := ⟨by decide +kernel, rfl⟩
set_option maxRecDepth 100000 in
theorem d_M_feed_62 : Dc m_M_feed 62 (.iconst 1) 1 63 := ⟨by decide +kernel, rfl⟩
set_option maxRecDepth 100000 in
theorem d_M_feed_63 : Dc m_M_feed 63 .iadd 1 64 := ⟨by decide +kernel, rfl⟩
set_option maxRecDepth 100000 in
theorem d_M_feed_64 : Dc m_M_feed 64 (.putfield 225) 3 67 := ⟨by decide +kernel, rfl⟩
set_option maxRecDepth 100000 in
theorem d_M_feed_67 : Dc m_M_feed 67 (.iinc 4 (1)) 3 70 := ⟨by decide +kernel, rfl⟩
set_option maxRecDepth 100000 in
theorem d_M_feed_70 : Dj m_M_feed 70 .goto 73 30 := ⟨-40, by decide +kernel, rfl, by decide⟩
set_option maxRecDepth 100000 in
theorem d_M_feed_73 : Dc m_M_feed 73 (.aload_n 0) 1 74 := ⟨by decide +kernel, rfl⟩
set_option maxRecDepth 100000 in
theorem d_M_feed_74 : Dc m_M_feed 74 (.getfield 225) 3 77 := ⟨by decide +kernel, rfl⟩
set_option maxRecDepth 100000 in
theorem d_M_feed_77 : Dc m_M_feed 77 .ireturn 1 78 := ⟨by decide +kernel, rfl⟩
set_option maxRecDepth 100000 in
theorem d_M_byteAt_0 : Dc m_M_byteAt 0 (.iload_n 1) 1 1 := ⟨by decide +kernel, rfl⟩
set_option maxRecDepth 100000 in
theorem d_M_byteAt_1 : Dc m_M_byteAt 1 (.aload_n 0) 1 2 := ⟨by decide +kernel, rfl⟩
set_option maxRecDepth 100000 in
theorem d_M_byteAt_2 : Dc m_M_byteAt 2 (.getfield 225) 3 5 := ⟨by decide +kernel, rfl⟩
set_option maxRecDepth 100000 in
theorem d_M_byteAt_5 : Dj m_M_byteAt 5 (.if_icmp .ge) 8 17 := ⟨12, by decide +kernel, rfl, by decide⟩
set_option maxRecDepth 100000 in
theorem d_M_byteAt_8 : Dc m_M_byteAt 8 (.aload_n 0) 1 9 := ⟨by decide +kernel, rfl⟩
set_option maxRecDepth 100000 in
theorem d_M_byteAt_9 : Dc m_M_byteAt 9 (.getfield 29) 3 12 := ⟨by decide +kernel, rfl⟩
set_option maxRecDepth 100000 in
theorem d_M_byteAt_12 : Dc m_M_byteAt 12 (.iload_n 1) 1 13 := ⟨by decide +kernel, rfl⟩
set_option maxRecDepth 100000 in
theorem d_M_byteAt_13 : Dc m_M_byteAt 13 .iaload 1 14 := ⟨by decide +kernel, rfl⟩
set_option maxRecDepth 100000 in
theorem d_M_byteAt_14 : Dj m_M_byteAt 14 .goto 17 18 := ⟨4, by decide +kernel, rfl, by decide⟩
set_option maxRecDepth 100000 in
theorem d_M_byteAt_17 : Dc m_M_byteAt 17 (.iconst (-1)) 1 18 := ⟨by decide +kernel, rfl⟩
set_option maxRecDepth 100000 in
theorem d_M_byteAt_18 : Dc m_M_byteAt 18 .ireturn 1 19 := ⟨by decide +kernel, rfl⟩
set_option maxRecDepth 100000 in
theorem d_M_isLetter_0 : Dc m_M_isLetter 0 (.iload_n 0) 1 1 := ⟨by decide +kernel, rfl⟩
set_option maxRecDepth 100000 in
theorem d_M_isLetter_1 : Dc m_M_isLetter 1 (.bipush (97)) 2 3 := ⟨by decide +kernel, rfl⟩
set_option maxRecDepth 100000 in
theorem d_M_isLetter_3 : Dc m_M_isLetter 3 (.bipush (122)) 2 5 := ⟨by decide +kernel, rfl⟩
set_option maxRecDepth 100000 in
theorem d_M_isLetter_5 : Dc m_M_isLetter 5 (.invokestatic 72) 3 8 := ⟨by decide +kernel, rfl⟩
set_option maxRecDepth 100000 in
theorem d_M_isLetter_8 : Dc m_M_isLetter 8 .ireturn 1 9 := ⟨by decide +kernel, rfl⟩
set_option maxRecDepth 100000 in
theorem d_M_isDigit_0 : Dc m_M_isDigit 0 (.iload_n 0) 1 1 := ⟨by decide +kernel, rfl⟩
set_option maxRecDepth 100000 in
theorem d_M_isDigit_1 : Dc m_M_isDigit 1 (.bipush (48)) 2 3 := ⟨by decide +kernel, rfl⟩
set_option maxRecDepth 100000 in
theorem d_M_isDigit_3 : Dc m_M_isDigit 3 (.bipush (57)) 2 5 := ⟨by decide +kernel, rfl⟩
set_option maxRecDepth 100000 in
theorem d_M_isDigit_5 : Dc m_M_isDigit 5 (.invokestatic 72) 3 8 := ⟨by decide +kernel, rfl⟩
set_option maxRecDepth 100000 in
theorem d_M_isDigit_8 : Dc m_M_isDigit 8 .ireturn 1 9 := ⟨by decide +kernel, rfl⟩
set_option maxRecDepth 100000 in
theorem d_M_advance_0 : Dc m_M_advance 0 (.aload_n 0) 1 1 := ⟨by decide +kernel, rfl⟩
set_option maxRecDepth 100000 in
theorem d_M_advance_1 : Dc m_M_advance 1 (.aload_n 0) 1 2 := ⟨by decide +kernel, rfl⟩
set_option maxRecDepth 100000 in
theorem d_M_advance_2 : Dc m_M_advance 2 (.getfield 230) 3 5 := ⟨by decide +kernel, rfl⟩
set_option maxRecDepth 100000 in
theorem d_M_advance_5 : Dc m_M_advance 5 (.putfield 233) 3 8 := ⟨by decide +kernel, rfl⟩
set_option maxRecDepth 100000 in
theorem d_M_advance_8 : Dc m_M_advance 8 (.aload_n 0) 1 9 := ⟨by decide +kernel, rfl⟩
set_option maxRecDepth 100000 in
theorem d_M_advance_9 : Dc m_M_advance 9 (.aload_n 0) 1 10 := ⟨by decide +kernel, rfl⟩
set_option maxRecDepth 100000 in
theorem d_M_advance_10 : Dc m_M_advance 10 (.getfield 233) 3 13 := ⟨by decide +kernel, rfl⟩
set_option maxRecDepth 100000 in
theorem d_M_advance_13 : Dc m_M_advance 13 (.invokevirtual 236) 3 16 := ⟨by decide +kernel, rfl⟩
set_option maxRecDepth 100000 in
theorem d_M_advance_16 : Dc m_M_advance 16 (.bipush (32)) 2 18 := ⟨by decide +kernel, rfl⟩
set_option maxRecDepth 100000 in
theorem d_M_advance_18 : Dj m_M_advance 18 (.if_icmp .ne) 21 34 := ⟨16, by decide +kernel, rfl, by decide⟩
set_option maxRecDepth 100000 in
theorem d_M_advance_21 : Dc m_M_advance 21 (.aload_n 0) 1 22 := ⟨by decide +kernel, rfl⟩
set_option maxRecDepth 100000 in
theorem d_M_advance_22 : Dc m_M_advance 22 .dup 1 23 := ⟨by decide +kernel, rfl⟩
set_option maxRecDepth 100000 in
theorem d_M_advance_23 : Dc m_M_advance 23 (.getfield 233) 3 26 := ⟨by decide +kernel, rfl⟩
set_option maxRecDepth 100000 in
theorem d_M_advance_26 : Dc m_M_advance 26 (.iconst 1) 1 27 := ⟨by decide +kernel, rfl⟩
set_option maxRecDepth 100000 in
theorem d_M_advance_27 : Dc m_M_advance 27 .iadd 1 28 := ⟨by decide +kernel, rfl⟩
set_option maxRecDepth 100000 in
theorem d_M_advance_28 : Dc m_M_advance 28 (.putfield 233) 3 31 := ⟨by decide +kernel, rfl⟩
set_option maxRecDepth 100000 in
theorem d_M_advance_31 : Dj m_M_advance 31 .goto 34 8 := ⟨-23, by decide +kernel, rfl, by decide⟩
set_option maxRecDepth 100000 in
theorem d_M_advance_34 : Dc m_M_advance 34 (.aload_n 0) 1 35 := ⟨by decide +kernel, rfl⟩
set_option maxRecDepth 100000 in
theorem d_M_advance_35 : Dc m_M_advance 35 (.aload_n 0) 1 36 := ⟨by decide +kernel, rfl⟩
set_option maxRecDepth 100000 in
theorem d_M_advance_36 : Dc m_M_advance 36 (.getfield 233) 3 39 := ⟨by decide +kernel, rfl⟩
set_option maxRecDepth 100000 in
theorem d_M_advance_39 : Dc m_M_advance 39 (.putfield 230) 3 42 := ⟨by decide +kernel, rfl⟩
set_option maxRecDepth 100000 in
theorem d_M_advance_42 : Dc m_M_advance 42 (.aload_n 0) 1 43 := ⟨by decide +kernel, rfl⟩
set_option maxRecDepth 100000 in
theorem d_M_advance_43 : Dc m_M_advance 43 (.aload_n 0) 1 44 := ⟨by decide +kernel, rfl⟩
set_option maxRecDepth 100000 in
theorem d_M_advance_44 : Dc m_M_advance 44 (.getfield 233) 3 47 := ⟨by decide +kernel, rfl⟩
set_option maxRecDepth 100000 in
theorem d_M_advance_47 : Dc m_M_advance 47 (.invokevirtual 236) 3 50 := ⟨by decide +kernel, rfl⟩
set_option maxRecDepth 100000 in
theorem d_M_advance_50 : Dc m_M_advance 50 (.istore_n 1) 1 51 := ⟨by decide +kernel, rfl⟩
set_option maxRecDepth 100000 in
theorem d_M_advance_51 : Dc m_M_advance 51 (.aload_n 0) 1 52 := ⟨by decide +kernel, rfl⟩
set_option maxRecDepth 100000 in
theorem d_M_advance_52 : Dc m_M_advance 52 (.iload_n 1) 1 53 := ⟨by decide +kernel, rfl⟩
set_option maxRecDepth 100000 in
theorem d_M_advance_53 : Dj m_M_advance 53 (.ifCond .ge) 56 60 := ⟨7, by decide +kernel, rfl, by decide⟩
set_option maxRecDepth 100000 in
theorem d_M_advance_56 : Dc m_M_advance 56 (.iconst 0) 1 57 := ⟨by decide +kernel, rfl⟩
set_option maxRecDepth 100000 in
theorem d_M_advance_57 : Dj m_M_advance 57 .goto 60 83 := ⟨26, by decide +kernel, rfl, by decide⟩
set_option maxRecDepth 100000 in
theorem d_M_advance_60 : Dc m_M_advance 60 (.iload_n 1) 1 61 := ⟨by decide +kernel, rfl⟩
set_option maxRecDepth 100000 in
theorem d_M_advance_61 : Dc m_M_advance 61 (.invokestatic 239) 3 64 := ⟨by decide +kernel, rfl⟩
set_option maxRecDepth 100000 in
theorem d_M_advance_64 : Dj m_M_advance 64 (.ifCond .eq) 67 71 := ⟨7, by decide +kernel, rfl, by decide⟩
set_option maxRecDepth 100000 in
theorem d_M_advance_67 : Dc m_M_advance 67 (.iconst 1) 1 68 := ⟨by decide +kernel, rfl⟩
set_option maxRecDepth 100000 in
theorem d_M_advance_68 : Dj m_M_advance 68 .goto 71 83 := ⟨15, by decide +kernel, rfl, by decide⟩
set_option maxRecDepth 100000 in
theorem d_M_advance_71 : Dc m_M_advance 71 (.iload_n 1) 1 72 := ⟨by decide +kernel, rfl⟩
set_option maxRecDepth 100000 in
theorem d_M_advance_72 : Dc m_M_advance 72 (.invokestatic 242) 3 75 := ⟨by decide +kernel, rfl⟩
set_option maxRecDepth 100000 in
theorem d_M_advance_75 : Dj m_M_advance 75 (.ifCond .eq) 78 82 := ⟨7, by decide +kernel, rfl, by decide⟩
set_option maxRecDepth 100000 in
theorem d_M_advance_78 : Dc m_M_advance 78 (.iconst 2) 1 79 := ⟨by decide +kernel, rfl⟩
set_option maxRecDepth 100000 in
theorem d_M_advance_79 : Dj m_M_advance 79 .goto 82 83 := ⟨4, by decide +kernel, rfl, by decide⟩
set_option maxRecDepth 100000 in
theorem d_M_advance_82 : Dc m_M_advance 82 (.iconst 3) 1 83 := ⟨by decide +kernel, rfl⟩
set_option maxRecDepth 100000 in
theorem d_M_advance_83 : Dc m_M_advance 83 (.putfield 245) 3 86 := ⟨by decide +kernel, rfl⟩
set_option maxRecDepth 100000 in
theorem d_M_advance_86 : Dc m_M_advance 86 (.aload_n 0) 1 87 := ⟨by decide +kernel, rfl⟩
set_option maxRecDepth 100000 in
theorem d_M_advance_87 : Dc m_M_advance 87 (.lconst 0) 1 88 := ⟨by decide +kernel, rfl⟩
set_option maxRecDepth 100000 in
theorem d_M_advance_88 : Dc m_M_advance 88 (.putfield 248) 3 91 := ⟨by decide +kernel, rfl⟩
set_option maxRecDepth 100000 in
theorem d_M_advance_91 : Dc m_M_advance 91 (.aload_n 0) 1 92 := ⟨by decide +kernel, rfl⟩
set_option maxRecDepth 100000 in
theorem d_M_advance_92 : Dc m_M_advance 92 (.aload_n 0) 1 93 := ⟨by decide +kernel, rfl⟩
set_option maxRecDepth 100000 in
theorem d_M_advance_93 : Dc m_M_advance 93 (.getfield 245) 3 96 := ⟨by decide +kernel, rfl⟩
set_option maxRecDepth 100000 in
theorem d_M_advance_96 : Dc m_M_advance 96 (.iconst 2) 1 97 := ⟨by decide +kernel, rfl⟩
set_option maxRecDepth 100000 in
theorem d_M_advance_97 : Dj m_M_advance 97 (.if_icmp .ne) 100 104 := ⟨7, by decide +kernel, rfl, by decide⟩
set_option maxRecDepth 100000 in
theorem d_M_advance_100 : Dc m_M_advance 100 (.iconst 0) 1 101 := ⟨by decide +kernel, rfl⟩
set_option maxRecDepth 100000 in
theorem d_M_advance_101 : Dj m_M_advance 101 .goto 104 105 := ⟨4, by decide +kernel, rfl, by decide⟩
set_option maxRecDepth 100000 in
theorem d_M_advance_104 : Dc m_M_advance 104 (.iload_n 1) 1 105 := ⟨by decide +kernel, rfl⟩
set_option maxRecDepth 100000 in
theorem d_M_advance_105 : Dc m_M_advance 105 (.putfield 252) 3 108 := ⟨by decide +kernel, rfl⟩
set_option maxRecDepth 100000 in
theorem d_M_advance_108 : Dc m_M_advance 108 (.aload_n 0) 1 109 := ⟨by decide +kernel, rfl⟩
set_option maxRecDepth 100000 in
theorem d_M_advance_109 : Dc m_M_advance 109 (.getfield 245) 3 112 := ⟨by decide +kernel, rfl⟩
set_option maxRecDepth 100000 in
theorem d_M_advance_112 : Dc m_M_advance 112 (.iconst 3) 1 113 := ⟨by decide +kernel, rfl⟩
set_option maxRecDepth 100000 in
theorem d_M_advance_113 : Dj m_M_advance 113 (.if_icmp .ne) 116 126 := ⟨13, by decide +kernel, rfl, by decide⟩
set_option maxRecDepth 100000 in
theorem d_M_advance_116 : Dc m_M_advance 116 (.aload_n 0) 1 117 := ⟨by decide +kernel, rfl⟩
set_option maxRecDepth 100000 in
theorem d_M_advance_117 : Dc m_M_advance 117 .dup 1 118 := ⟨by decide +kernel, rfl⟩
set_option maxRecDepth 100000 in
theorem d_M_advance_118 : Dc m_M_advance 118 (.getfield 230) 3 121 := ⟨by decide +kernel, rfl⟩
set_option maxRecDepth 100000 in
theorem d_M_advance_121 : Dc m_M_advance 121 (.iconst 1) 1 122 := ⟨by decide +kernel, rfl⟩
set_option maxRecDepth 100000 in
theorem d_M_advance_122 : Dc m_M_advance 122 .iadd 1 123 := ⟨by decide +kernel, rfl⟩
set_option maxRecDepth 100000 in
theorem d_M_advance_123 : Dc m_M_advance 123 (.putfield 230) 3 126 := ⟨by decide +kernel, rfl⟩
set_option maxRecDepth 100000 in
theorem d_M_advance_126 : Dc m_M_advance 126 (.aload_n 0) 1 127 := ⟨by decide +kernel, rfl⟩
set_option maxRecDepth 100000 in
theorem d_M_advance_127 : Dc m_M_advance 127 (.getfield 245) 3 130 := ⟨by decide +kernel, rfl⟩
set_option maxRecDepth 100000 in
theorem d_M_advance_130 : Dc m_M_advance 130 (.iconst 1) 1 131 := ⟨by decide +kernel, rfl⟩
set_option maxRecDepth 100000 in
theorem d_M_advance_131 : Dj m_M_advance 131 (.if_icmp .ne) 134 207 := ⟨76, by decide +kernel, rfl, by decide⟩
set_option maxRecDepth 100000 in
theorem d_M_advance_134 : Dc m_M_advance 134 (.aload_n 0) 1 135 := ⟨by decide +kernel, rfl⟩
set_option maxRecDepth 100000 in
theorem d_M_advance_135 : Dc m_M_advance 135 (.aload_n 0) 1 136 := ⟨by decide +kernel, rfl⟩
set_option maxRecDepth 100000 in
theorem d_M_advance_136 : Dc m_M_advance 136 (.getfield 230) 3 139 := ⟨by decide +kernel, rfl⟩
set_option maxRecDepth 100000 in
theorem d_M_advance_139 : Dc m_M_advance 139 (.invokevirtual 236) 3 142 := ⟨by decide +kernel, rfl⟩
set_option maxRecDepth 100000 in
theorem d_M_advance_142 : Dc m_M_advance 142 (.invokestatic 239) 3 145 := ⟨by decide +kernel, rfl⟩
set_option maxRecDepth 100000 in
theorem d_M_advance_145 : Dj m_M_advance 145 (.ifCond .eq) 148 207 := ⟨62, by decide +kernel, rfl, by decide⟩
set_option maxRecDepth 100000 in
theorem d_M_advance_148 : Dc m_M_advance 148 (.aload_n 0) 1 149 := ⟨by decide +kernel, rfl⟩
set_option maxRecDepth 100000 in
theorem d_M_advance_149 : Dc m_M_advance 149 (.aload_n 0) 1 150 := ⟨by decide +kernel, rfl⟩
set_option maxRecDepth 100000 in
theorem d_M_advance_150 : Dc m_M_advance 150 (.getfield 230) 3 153 := ⟨by decide +kernel, rfl⟩
set_option maxRecDepth 100000 in
theorem d_M_advance_153 : Dc m_M_advance 153 (.aload_n 0) 1 154 := ⟨by decide +kernel, rfl⟩
set_option maxRecDepth 100000 in
theorem d_M_advance_154 : Dc m_M_advance 154 (.getfield 233) 3 157 := ⟨by decide +kernel, rfl⟩
set_option maxRecDepth 100000 in
theorem d_M_advance_157 : Dc m_M_advance 157 .isub 1 158 := ⟨by decide +kernel, rfl⟩
set_option maxRecDepth 100000 in
theorem d_M_advance_158 : Dc m_M_advance 158 (.bipush (8)) 2 160 := ⟨by decide +kernel, rfl⟩
set_option maxRecDepth 100000 in
theorem d_M_advance_160 : Dj m_M_advance 160 (.if_icmp .ge) 163 188 := ⟨28, by decide +kernel, rfl, by decide⟩
set_option maxRecDepth 100000 in
theorem d_M_advance_163 : Dc m_M_advance 163 (.ldc2_w 255) 3 166 := ⟨by decide +kernel, rfl⟩
set_option maxRecDepth 100000 in
theorem d_M_advance_166 : Dc m_M_advance 166 (.aload_n 0) 1 167 := ⟨by decide +kernel, rfl⟩
set_option maxRecDepth 100000 in
theorem d_M_advance_167 : Dc m_M_advance 167 (.getfield 248) 3 170 := ⟨by decide +kernel, rfl⟩
set_option maxRecDepth 100000 in
theorem d_M_advance_170 : Dc m_M_advance 170 .lmul 1 171 := ⟨by decide +kernel, rfl⟩
set_option maxRecDepth 100000 in
theorem d_M_advance_171 : Dc m_M_advance 171 (.aload_n 0) 1 172 := ⟨by decide +kernel, rfl⟩
set_option maxRecDepth 100000 in
theorem d_M_advance_172 : Dc m_M_advance 172 (.aload_n 0) 1 173 := ⟨by decide +kernel, rfl⟩
set_option maxRecDepth 100000 in
theorem d_M_advance_173 : Dc m_M_advance 173 (.getfield 230) 3 176 := ⟨by decide +kernel, rfl⟩
set_option maxRecDepth 100000 in
theorem d_M_advance_176 : Dc m_M_advance 176 (.invokevirtual 236) 3 179 := ⟨by decide +kernel, rfl⟩
set_option maxRecDepth 100000 in
theorem d_M_advance_179 : Dc m_M_advance 179 .i2l 1 180 := ⟨by decide +kernel, rfl⟩
set_option maxRecDepth 100000 in
theorem d_M_advance_180 : Dc m_M_advance 180 .ladd 1 181 := ⟨by decide +kernel, rfl⟩
set_option maxRecDepth 100000 in
theorem d_M_advance_181 : Dc m_M_advance 181 (.ldc2_w 257) 3 184 := ⟨by decide +kernel, rfl⟩
set_option maxRecDepth 100000 in
theorem d_M_advance_184 : Dc m_M_advance 184 .lsub 1 185 := ⟨by decide +kernel, rfl⟩
set_option maxRecDepth 100000 in
theorem d_M_advance_185 : Dj m_M_advance 185 .goto 188 191 := ⟨6, by decide +kernel, rfl, by decide⟩
set_option maxRecDepth 100000 in
theorem d_M_advance_188 : Dc m_M_advance 188 (.ldc2_w 104) 3 191 := ⟨by decide +kernel, rfl⟩
set_option maxRecDepth 100000 in
theorem d_M_advance_191 : Dc m_M_advance 191 (.putfield 248) 3 194 := ⟨by decide +kernel, rfl⟩
set_option maxRecDepth 100000 in
theorem d_M_advance_194 : Dc m_M_advance 194 (.aload_n 0) 1 195 := ⟨by decide +kernel, rfl⟩
set_option maxRecDepth 100000 in
theorem d_M_advance_195 : Dc m_M_advance 195 .dup 1 196 := ⟨by decide +kernel, rfl⟩
set_option maxRecDepth 100000 in
theorem d_M_advance_196 : Dc m_M_advance 196 (.getfield 230) 3 199 := ⟨by decide +kernel, rfl⟩
set_option maxRecDepth 100000 in
theorem d_M_advance_199 : Dc m_M_advance 199 (.iconst 1) 1 200 := ⟨by decide +kernel, rfl⟩
set_option maxRecDepth 100000 in
theorem d_M_advance_200 : Dc m_M_advance 200 .iadd 1 201 := ⟨by decide +kernel, rfl⟩
set_option maxRecDepth 100000 in
theorem d_M_advance_201 : Dc m_M_advance 201 (.putfield 230) 3 204 := ⟨by decide +kernel, rfl⟩
set_option maxRecDepth 100000 in
theorem d_M_advance_204 : Dj m_M_advance 204 .goto 207 126 := ⟨-78, by decide +kernel, rfl, by decide⟩
set_option maxRecDepth 100000 in
theorem d_M_advance_207 : Dc m_M_advance 207 (.aload_n 0) 1 208 := ⟨by decide +kernel, rfl⟩
set_option maxRecDepth 100000 in
theorem d_M_advance_208 : Dc m_M_advance 208 (.getfield 245) 3 211 := ⟨by decide +kernel, rfl⟩
set_option maxRecDepth 100000 in
theorem d_M_advance_211 : Dc m_M_advance 211 (.iconst 2) 1 212 := ⟨by decide +kernel, rfl⟩
set_option maxRecDepth 100000 in
theorem d_M_advance_212 : Dj m_M_advance 212 (.if_icmp .ne) 215 282 := ⟨70, by decide +kernel, rfl, by decide⟩
set_option maxRecDepth 100000 in
theorem d_M_advance_215 : Dc m_M_advance 215 (.aload_n 0) 1 216 := ⟨by decide +kernel, rfl⟩
set_option maxRecDepth 100000 in
theorem d_M_advance_216 : Dc m_M_advance 216 (.aload_n 0) 1 217 := ⟨by decide +kernel, rfl⟩
set_option maxRecDepth 100000 in
theorem d_M_advance_217 : Dc m_M_advance 217 (.getfield 230) 3 220 := ⟨by decide +kernel, rfl⟩
set_option maxRecDepth 100000 in
theorem d_M_advance_220 : Dc m_M_advance 220 (.invokevirtual 236) 3 223 := ⟨by decide +kernel, rfl⟩
set_option maxRecDepth 100000 in
theorem d_M_advance_223 : Dc m_M_advance 223 (.invokestatic 242) 3 226 := ⟨by decide +kernel, rfl⟩
set_option maxRecDepth 100000 in
theorem d_M_advance_226 : Dj m_M_advance 226 (.ifCond .eq) 229 282 := ⟨56, by decide +kernel, rfl, by decide⟩
set_option maxRecDepth 100000 in
theorem d_M_advance_229 : Dc m_M_advance 229 (.aload_n 0) 1 230 := ⟨by decide +kernel, rfl⟩
set_option maxRecDepth 100000 in
theorem d_M_advance_230 : Dc m_M_advance 230 (.aload_n 0) 1 231 := ⟨by decide +kernel, rfl⟩
set_option maxRecDepth 100000 in
theorem d_M_advance_231 : Dc m_M_advance 231 (.getfield 230) 3 234 := ⟨by decide +kernel, rfl⟩
set_option maxRecDepth 100000 in
theorem d_M_advance_234 : Dc m_M_advance 234 (.aload_n 0) 1 235 := ⟨by decide +kernel, rfl⟩
set_option maxRecDepth 100000 in
theorem d_M_advance_235 : Dc m_M_advance 235 (.getfield 233) 3 238 := ⟨by decide +kernel, rfl⟩
set_option maxRecDepth 100000 in
theorem d_M_advance_238 : Dc m_M_advance 238 .isub 1 239 := ⟨by decide +kernel, rfl⟩
set_option maxRecDepth 100000 in
theorem d_M_advance_239 : Dc m_M_advance 239 (.iconst 2) 1 240 := ⟨by decide +kernel, rfl⟩
set_option maxRecDepth 100000 in
theorem d_M_advance_240 : Dj m_M_advance 240 (.if_icmp .ge) 243 265 := ⟨25, by decide +kernel, rfl, by decide⟩
set_option maxRecDepth 100000 in
theorem d_M_advance_243 : Dc m_M_advance 243 (.bipush (10)) 2 245 := ⟨by decide +kernel, rfl⟩
set_option maxRecDepth 100000 in
theorem d_M_advance_245 : Dc m_M_advance 245 (.aload_n 0) 1 246 := ⟨by decide +kernel, rfl⟩
set_option maxRecDepth 100000 in
theorem d_M_advance_246 : Dc m_M_advance 246 (.getfield 252) 3 249 := ⟨by decide +kernel, rfl⟩
set_option maxRecDepth 100000 in
theorem d_M_advance_249 : Dc m_M_advance 249 .imul 1 250 := ⟨by decide +kernel, rfl⟩
set_option maxRecDepth 100000 in
theorem d_M_advance_250 : Dc m_M_advance 250 (.aload_n 0) 1 251 := ⟨by decide +kernel, rfl⟩
set_option maxRecDepth 100000 in
theorem d_M_advance_251 : Dc m_M_advance 251 (.aload_n 0) 1 252 := ⟨by decide +kernel, rfl⟩
set_option maxRecDepth 100000 in
theorem d_M_advance_252 : Dc m_M_advance 252 (.getfield 230) 3 255 := ⟨by decide +kernel, rfl⟩
set_option maxRecDepth 100000 in
theorem d_M_advance_255 : Dc m_M_advance 255 (.invokevirtual 236) 3 258 := ⟨by decide +kernel, rfl⟩
set_option maxRecDepth 100000 in
theorem d_M_advance_258 : Dc m_M_advance 258 .iadd 1 259 := ⟨by decide +kernel, rfl⟩
set_option maxRecDepth 100000 in
theorem d_M_advance_259 : Dc m_M_advance 259 (.bipush (48)) 2 261 := ⟨by decide +kernel, rfl⟩
set_option maxRecDepth 100000 in
theorem d_M_advance_261 : Dc m_M_advance 261 .isub 1 262 := ⟨by decide +kernel, rfl⟩
set_option maxRecDepth 100000 in
theorem d_M_advance_262 : Dj m_M_advance 262 .goto 265 266 := ⟨4, by decide +kernel, rfl, by decide⟩
set_option maxRecDepth 100000 in
theorem d_M_advance_265 : Dc m_M_advance 265 (.iconst (-1)) 1 266 := ⟨by decide +kernel, rfl⟩
set_option maxRecDepth 100000 in
theorem d_M_advance_266 : Dc m_M_advance 266 (.putfield 252) 3 269 := ⟨by decide +kernel, rfl⟩
set_option maxRecDepth 100000 in
theorem d_M_advance_269 : Dc m_M_advance 269 (.aload_n 0) 1 270 := ⟨by decide +kernel, rfl⟩
set_option maxRecDepth 100000 in
theorem d_M_advance_270 : Dc m_M_advance 270 .dup 1 271 := ⟨by decide +kernel, rfl⟩
set_option maxRecDepth 100000 in
theorem d_M_advance_271 : Dc m_M_advance 271 (.getfield 230) 3 274 := ⟨by decide +kernel, rfl⟩
set_option maxRecDepth 100000 in
theorem d_M_advance_274 : Dc m_M_advance 274 (.iconst 1) 1 275 := ⟨by decide +kernel, rfl⟩
set_option maxRecDepth 100000 in
theorem d_M_advance_275 : Dc m_M_advance 275 .iadd 1 276 := ⟨by decide +kernel, rfl⟩
set_option maxRecDepth 100000 in
theorem d_M_advance_276 : Dc m_M_advance 276 (.putfield 230) 3 279 := ⟨by decide +kernel, rfl⟩
set_option maxRecDepth 100000 in
theorem d_M_advance_279 : Dj m_M_advance 279 .goto 282 207 := ⟨-72, by decide +kernel, rfl, by decide⟩
set_option maxRecDepth 100000 in
theorem d_M_advance_282 : Dc m_M_advance 282 .return_ 1 283 := ⟨by decide +kernel, rfl⟩
set_option maxRecDepth 100000 in
theorem d_M_isWord_0 : Dc m_M_isWord 0 (.aload_n 0) 1 1 := ⟨by decide +kernel, rfl⟩
set_option maxRecDepth 100000 in
theorem d_M_isWord_1 : Dc m_M_isWord 1 (.getfield 245) 3 4 := ⟨by decide +kernel, rfl⟩
set_option maxRecDepth 100000 in
theorem d_M_isWord_4 : Dc m_M_isWord 4 (.iconst 1) 1 5 := ⟨by decide +kernel, rfl⟩
set_option maxRecDepth 100000 in
theorem d_M_isWord_5 : Dj m_M_isWord 5 (.if_icmp .ne) 8 21 := ⟨16, by decide +kernel, rfl, by decide⟩
set_option maxRecDepth 100000 in
theorem d_M_isWord_8 : Dc m_M_isWord 8 (.aload_n 0) 1 9 := ⟨by decide +kernel, rfl⟩
set_option maxRecDepth 100000 in
theorem d_M_isWord_9 : Dc m_M_isWord 9 (.getfield 248) 3 12 := ⟨by decide +kernel, rfl⟩
set_option maxRecDepth 100000 in
theorem d_M_isWord_12 : Dc m_M_isWord 12 (.lload_n 1) 1 13 := ⟨by decide +kernel, rfl⟩
set_option maxRecDepth 100000 in
theorem d_M_isWord_13 : Dc m_M_isWord 13 .lcmp 1 14 := ⟨by decide +kernel, rfl⟩
set_option maxRecDepth 100000 in
theorem d_M_isWord_14 : Dj m_M_isWord 14 (.ifCond .ne) 17 21 := ⟨7, by decide +kernel, rfl, by decide⟩
set_option maxRecDepth 100000 in
theorem d_M_isWord_17 : Dc m_M_isWord 17 (.iconst 1) 1 18 := ⟨by decide +kernel, rfl⟩
set_option maxRecDepth 100000 in
theorem d_M_isWord_18 : Dj m_M_isWord 18 .goto 21 22 := ⟨4, by decide +kernel, rfl, by decide⟩
set_option maxRecDepth 100000 in
theorem d_M_isWord_21 : Dc m_M_isWord 21 (.iconst 0) 1 22 := ⟨by decide +kernel, rfl⟩
set_option maxRecDepth 100000 in
theorem d_M_isWord_22 : Dc m_M_isWord 22 .ireturn 1 23 := ⟨by decide +kernel, rfl⟩
set_option maxRecDepth 100000 in
theorem d_M_isMark_0 : Dc m_M_isMark 0 (.aload_n 0) 1 1 := ⟨by decide +kernel, rfl⟩
set_option maxRecDepth 100000 in
theorem d_M_isMark_1 : Dc m_M_isMark 1 (.getfield 245) 3 4 := ⟨by decide +kernel, rfl⟩
set_option maxRecDepth 100000 in
theorem d_M_isMark_4 : Dc m_M_isMark 4 (.iconst 3) 1 5 := ⟨by decide +kernel, rfl⟩
set_option maxRecDepth 100000 in
theorem d_M_isMark_5 : Dj m_M_isMark 5 (.if_icmp .ne) 8 20 := ⟨15, by decide +kernel, rfl, by decide⟩
set_option maxRecDepth 100000 in
theorem d_M_isMark_8 : Dc m_M_isMark 8 (.aload_n 0) 1 9 := ⟨by decide +kernel, rfl⟩
set_option maxRecDepth 100000 in
theorem d_M_isMark_9 : Dc m_M_isMark 9 (.getfield 252) 3 12 := ⟨by decide +kernel, rfl⟩
set_option maxRecDepth 100000 in
theorem d_M_isMark_12 : Dc m_M_isMark 12 (.iload_n 1) 1 13 := ⟨by decide +kernel, rfl⟩
set_option maxRecDepth 100000 in
theorem d_M_isMark_13 : Dj m_M_isMark 13 (.if_icmp .ne) 16 20 := ⟨7, by decide +kernel, rfl, by decide⟩
set_option maxRecDepth 100000 in
theorem d_M_isMark_16 : Dc m_M_isMark 16 (.iconst 1) 1 17 := ⟨by decide +kernel, rfl⟩
set_option maxRecDepth 100000 in
theorem d_M_isMark_17 : Dj m_M_isMark 17 .goto 20 21 := ⟨4, by decide +kernel, rfl, by decide⟩
set_option maxRecDepth 100000 in
theorem d_M_isMark_20 : Dc m_M_isMark 20 (.iconst 0) 1 21 := ⟨by decide +kernel, rfl⟩
set_option maxRecDepth 100000 in
theorem d_M_isMark_21 : Dc m_M_isMark 21 .ireturn 1 22 := ⟨by decide +kernel, rfl⟩
set_option maxRecDepth 100000 in
theorem d_M_wantNumber_0 : Dc m_M_wantNumber 0 (.aload_n 0) 1 1 := ⟨by decide +kernel, rfl⟩
set_option maxRecDepth 100000 in
theorem d_M_wantNumber_1 : Dc m_M_wantNumber 1 (.getfield 252) 3 4 := ⟨by decide +kernel, rfl⟩
set_option maxRecDepth 100000 in
theorem d_M_wantNumber_4 : Dc m_M_wantNumber 4 (.istore_n 3) 1 5 := ⟨by decide +kernel, rfl⟩
set_option maxRecDepth 100000 in
theorem d_M_wantNumber_5 : Dc m_M_wantNumber 5 (.aload_n 0) 1 6 := ⟨by decide +kernel, rfl⟩
set_option maxRecDepth 100000 in
theorem d_M_wantNumber_6 : Dc m_M_wantNumber 6 (.aload_n 0) 1 7 := ⟨by decide +kernel, rfl⟩
set_option maxRecDepth 100000 in
theorem d_M_wantNumber_7 : Dc m_M_wantNumber 7 (.getfield 259) 3 10 := ⟨by decide +kernel, rfl⟩
set_option maxRecDepth 100000 in
theorem d_M_wantNumber_10 : Dj m_M_wantNumber 10 (.ifCond .eq) 13 34 := ⟨24, by decide +kernel, rfl, by decide⟩
set_option maxRecDepth 100000 in
theorem d_M_wantNumber_13 : Dc m_M_wantNumber 13 (.aload_n 0) 1 14 := ⟨by decide +kernel, rfl⟩
set_option maxRecDepth 100000 in
theorem d_M_wantNumber_14 : Dc m_M_wantNumber 14 (.getfield 245) 3 17 := ⟨by decide +kernel, rfl⟩
set_option maxRecDepth 100000 in
theorem d_M_wantNumber_17 : Dc m_M_wantNumber 17 (.iconst 2) 1 18 := ⟨by decide +kernel, rfl⟩
set_option maxRecDepth 100000 in
theorem d_M_wantNumber_18 : Dj m_M_wantNumber 18 (.if_icmp .ne) 21 34 := ⟨16, by decide +kernel, rfl, by decide⟩
set_option maxRecDepth 100000 in
theorem d_M_wantNumber_21 : Dc m_M_wantNumber 21 (.iload_n 3) 1 22 := ⟨by decide +kernel, rfl⟩
set_option maxRecDepth 100000 in
theorem d_M_wantNumber_22 : Dc m_M_wantNumber 22 (.iload_n 1) 1 23 := ⟨by decide +kernel, rfl⟩
set_option maxRecDepth 100000 in
theorem d_M_wantNumber_23 : Dc m_M_wantNumber 23 (.iload_n 2) 1 24 := ⟨by decide +kernel, rfl⟩
set_option maxRecDepth 100000 in
theorem d_M_wantNumber_24 : Dc m_M_wantNumber 24 (.invokestatic 72) 3 27 := ⟨by decide +kernel, rfl⟩
set_option maxRecDepth 100000 in
theorem d_M_wantNumber_27 : Dj m_M_wantNumber 27 (.ifCond .eq) 30 34 := ⟨7, by decide +kernel, rfl, by decide⟩
set_option maxRecDepth 100000 in
theorem d_M_wantNumber_30 : Dc m_M_wantNumber 30 (.iconst 1) 1 31 := ⟨by decide +kernel, rfl⟩
set_option maxRecDepth 100000 in
theorem d_M_wantNumber_31 : Dj m_M_wantNumber 31 .goto 34 35 := ⟨4, by decide +kernel, rfl, by decide⟩
set_option maxRecDepth 100000 in
theorem d_M_wantNumber_34 : Dc m_M_wantNumber 34 (.iconst 0) 1 35 := ⟨by decide +kernel, rfl⟩
set_option maxRecDepth 100000 in
theorem d_M_wantNumber_35 : Dc m_M_wantNumber 35 (.putfield 259) 3 38 := ⟨by decide +kernel, rfl⟩
set_option maxRecDepth 100000 in
theorem d_M_wantNumber_38 : Dc m_M_wantNumber 38 (.aload_n 0) 1 39 := ⟨by decide +kernel, rfl⟩
set_option maxRecDepth 100000 in
theorem d_M_wantNumber_39 : Dc m_M_wantNumber 39 (.getfield 259) 3 42 := ⟨by decide +kernel, rfl⟩
set_option maxRecDepth 100000 in
theorem d_M_wantNumber_42 : Dj m_M_wantNumber 42 (.ifCond .eq) 45 49 := ⟨7, by decide +kernel, rfl, by decide⟩
set_option maxRecDepth 100000 in
theorem d_M_wantNumber_45 : Dc m_M_wantNumber 45 (.aload_n 0) 1 46 := ⟨by decide +kernel, rfl⟩
set_option maxRecDepth 100000 in
theorem d_M_wantNumber_46 : Dc m_M_wantNumber 46 (.invokevirtual 263) 3 49 := ⟨by decide +kernel, rfl⟩
set_option maxRecDepth 100000 in
theorem d_M_wantNumber_49 : Dc m_M_wantNumber 49 (.iload_n 3) 1 50 := ⟨by decide +kernel, rfl⟩
set_option maxRecDepth 100000 in
theorem d_M_wantNumber_50 : Dc m_M_wantNumber 50 .ireturn 1 51 := ⟨by decide +kernel, rfl⟩
set_option maxRecDepth 100000 in
theorem d_M_wantItem_0 : Dc m_M_wantItem 0 (.aload_n 0) 1 1 := ⟨by decide +kernel, rfl⟩
set_option maxRecDepth 100000 in
theorem d_M_wantItem_1 : Dc m_M_wantItem 1 (.ldc2_w 266) 3 4 := ⟨by decide +kernel, rfl⟩
set_option maxRecDepth 100000 in
theorem d_M_wantItem_4 : Dc m_M_wantItem 4 (.invokevirtual 268) 3 7 := ⟨by decide +kernel, rfl⟩
set_option maxRecDepth 100000 in
theorem d_M_wantItem_7 : Dj m_M_wantItem 7 (.ifCond .eq) 10 14 := ⟨7, by decide +kernel, rfl, by decide⟩
set_option maxRecDepth 100000 in
theorem d_M_wantItem_10 : Dc m_M_wantItem 10 (.iconst 0) 1 11 := ⟨by decide +kernel, rfl⟩
set_option maxRecDepth 100000 in
theorem d_M_wantItem_11 : Dj m_M_wantItem 11 .goto 14 43 := ⟨32, by decide +kernel, rfl, by decide⟩
set_option maxRecDepth 100000 in
theorem d_M_wantItem_14 : Dc m_M_wantItem 14 (.aload_n 0) 1 15 := ⟨by decide +kernel, rfl⟩
set_option maxRecDepth 100000 in
theorem d_M_wantItem_15 : Dc m_M_wantItem 15 (.ldc2_w 272) 3 18 := ⟨by decide +kernel, rfl⟩
set_option maxRecDepth 100000 in
theorem d_M_wantItem_18 : Dc m_M_wantItem 18 (.invokevirtual 268) 3 21 := ⟨by decide +kernel, rfl⟩
set_option maxRecDepth 100000 in
theorem d_M_wantItem_21 : Dj m_M_wantItem 21 (.ifCond .eq) 24 28 := ⟨7, by decide +kernel, rfl, by decide⟩
set_option maxRecDepth 100000 in
theorem d_M_wantItem_24 : Dc m_M_wantItem 24 (.iconst 1) 1 25 := ⟨by decide +kernel, rfl⟩
set_option maxRecDepth 100000 in
theorem d_M_wantItem_25 : Dj m_M_wantItem 25 .goto 28 43 := ⟨18, by decide +kernel, rfl, by decide⟩
set_option maxRecDepth 100000 in
theorem d_M_wantItem_28 : Dc m_M_wantItem 28 (.aload_n 0) 1 29 := ⟨by decide +kernel, rfl⟩
set_option maxRecDepth 100000 in
theorem d_M_wantItem_29 : Dc m_M_wantItem 29 (.ldc2_w 274) 3 32 := ⟨by decide +kernel, rfl⟩
set_option maxRecDepth 100000 in
theorem d_M_wantItem_32 : Dc m_M_wantItem 32 (.invokevirtual 268) 3 35 := ⟨by decide +kernel, rfl⟩
set_option maxRecDepth 100000 in
theorem d_M_wantItem_35 : Dj m_M_wantItem 35 (.ifCond .eq) 38 42 := ⟨7, by decide +kernel, rfl, by decide⟩
set_option maxRecDepth 100000 in
theorem d_M_wantItem_38 : Dc m_M_wantItem 38 (.iconst 2) 1 39 := ⟨by decide +kernel, rfl⟩
set_option maxRecDepth 100000 in
theorem d_M_wantItem_39 : Dj m_M_wantItem 39 .goto 42 43 := ⟨4, by decide +kernel, rfl, by decide⟩
set_option maxRecDepth 100000 in
theorem d_M_wantItem_42 : Dc m_M_wantItem 42 (.iconst (-1)) 1 43 := ⟨by decide +kernel, rfl⟩
set_option maxRecDepth 100000 in
theorem d_M_wantItem_43 : Dc m_M_wantItem 43 (.istore_n 2) 1 44 := ⟨by decide +kernel, rfl⟩
set_option maxRecDepth 100000 in
theorem d_M_wantItem_44 : Dc m_M_wantItem 44 (.aload_n 0) 1 45 := ⟨by decide +kernel, rfl⟩
set_option maxRecDepth 100000 in
theorem d_M_wantItem_45 : Dc m_M_wantItem 45 (.iload_n 2) 1 46 := ⟨by decide +kernel, rfl⟩
set_option maxRecDepth 100000 in
theorem d_M_wantItem_46 : Dj m_M_wantItem 46 (.ifCond .lt) 49 59 := ⟨13, by decide +kernel, rfl, by decide⟩
set_option maxRecDepth 100000 in
theorem d_M_wantItem_49 : Dc m_M_wantItem 49 (.iload_n 1) 1 50 := ⟨by decide +kernel, rfl⟩
set_option maxRecDepth 100000 in
theorem d_M_wantItem_50 : Dc m_M_wantItem 50 (.bipush (12)) 2 52 := ⟨by decide +kernel, rfl⟩
set_option maxRecDepth 100000 in
theorem d_M_wantItem_52 : Dj m_M_wantItem 52 (.if_icmp .ge) 55 59 := ⟨7, by decide +kernel, rfl, by decide⟩
set_option maxRecDepth 100000 in
theorem d_M_wantItem_55 : Dc m_M_wantItem 55 (.iconst 1) 1 56 := ⟨by decide +kernel, rfl⟩
set_option maxRecDepth 100000 in
theorem d_M_wantItem_56 : Dj m_M_wantItem 56 .goto 59 60 := ⟨4, by decide +kernel, rfl, by decide⟩
set_option maxRecDepth 100000 in
theorem d_M_wantItem_59 : Dc m_M_wantItem 59 (.iconst 0) 1 60 := ⟨by decide +kernel, rfl⟩
set_option maxRecDepth 100000 in
theorem d_M_wantItem_60 : Dc m_M_wantItem 60 (.putfield 259) 3 63 := ⟨by decide +kernel, rfl⟩
set_option maxRecDepth 100000 in
theorem d_M_wantItem_63 : Dc m_M_wantItem 63 (.aload_n 0) 1 64 := ⟨by decide +kernel, rfl⟩
set_option maxRecDepth 100000 in
theorem d_M_wantItem_64 : Dc m_M_wantItem 64 (.getfield 259) 3 67 := ⟨by decide +kernel, rfl⟩
set_option maxRecDepth 100000 in
theorem d_M_wantItem_67 : Dj m_M_wantItem 67 (.ifCond .eq) 70 74 := ⟨7, by decide +kernel, rfl, by decide⟩
set_option maxRecDepth 100000 in
theorem d_M_wantItem_70 : Dc m_M_wantItem 70 (.aload_n 0) 1 71 := ⟨by decide +kernel, rfl⟩
set_option maxRecDepth 100000 in
theorem d_M_wantItem_71 : Dc m_M_wantItem 71 (.invokevirtual 263) 3 74 := ⟨by decide +kernel, rfl⟩
set_option maxRecDepth 100000 in
theorem d_M_wantItem_74 : Dc m_M_wantItem 74 (.aload_n 0) 1 75 := ⟨by decide +kernel, rfl⟩
set_option maxRecDepth 100000 in
theorem d_M_wantItem_75 : Dc m_M_wantItem 75 (.iload_n 2) 1 76 := ⟨by decide +kernel, rfl⟩
set_option maxRecDepth 100000 in
theorem d_M_wantItem_76 : Dc m_M_wantItem 76 (.iconst 2) 1 77 := ⟨by decide +kernel, rfl⟩
set_option maxRecDepth 100000 in
theorem d_M_wantItem_77 : Dj m_M_wantItem 77 (.if_icmp .ne) 80 84 := ⟨7, by decide +kernel, rfl, by decide⟩
set_option maxRecDepth 100000 in
theorem d_M_wantItem_80 : Dc m_M_wantItem 80 (.iconst 1) 1 81 := ⟨by decide +kernel, rfl⟩
set_option maxRecDepth 100000 in
theorem d_M_wantItem_81 : Dj m_M_wantItem 81 .goto 84 85 := ⟨4, by decide +kernel, rfl, by decide⟩
set_option maxRecDepth 100000 in
theorem d_M_wantItem_84 : Dc m_M_wantItem 84 (.iconst 2) 1 85 := ⟨by decide +kernel, rfl⟩
set_option maxRecDepth 100000 in
theorem d_M_wantItem_85 : Dc m_M_wantItem 85 (.bipush (9)) 2 87 := ⟨by decide +kernel, rfl⟩
set_option maxRecDepth 100000 in
theorem d_M_wantItem_87 : Dc m_M_wantItem 87 (.invokevirtual 276) 3 90 := ⟨by decide +kernel, rfl⟩
set_option maxRecDepth 100000 in
theorem d_M_wantItem_90 : Dc m_M_wantItem 90 (.istore_n 3) 1 91 := ⟨by decide +kernel, rfl⟩
set_option maxRecDepth 100000 in
theorem d_M_wantItem_91 : Dc m_M_wantItem 91 (.iload_n 2) 1 92 := ⟨by decide +kernel, rfl⟩
set_option maxRecDepth 100000 in
theorem d_M_wantItem_92 : Dc m_M_wantItem 92 (.iconst 2) 1 93 := ⟨by decide +kernel, rfl⟩
set_option maxRecDepth 100000 in
theorem d_M_wantItem_93 : Dj m_M_wantItem 93 (.if_icmp .ne) 96 100 := ⟨7, by decide +kernel, rfl, by decide⟩
set_option maxRecDepth 100000 in
theorem d_M_wantItem_96 : Dc m_M_wantItem 96 (.iconst 0) 1 97 := ⟨by decide +kernel, rfl⟩
set_option maxRecDepth 100000 in
theorem d_M_wantItem_97 : Dj m_M_wantItem 97 .goto 100 107 := ⟨10, by decide +kernel, rfl, by decide⟩
set_option maxRecDepth 100000 in
theorem d_M_wantItem_100 : Dc m_M_wantItem 100 (.aload_n 0) 1 101 := ⟨by decide +kernel, rfl⟩
set_option maxRecDepth 100000 in
theorem d_M_wantItem_101 : Dc m_M_wantItem 101 (.iconst 2) 1 102 := ⟨by decide +kernel, rfl⟩
set_option maxRecDepth 100000 in
theorem d_M_wantItem_102 : Dc m_M_wantItem 102 (.bipush (9)) 2 104 := ⟨by decide +kernel, rfl⟩
set_option maxRecDepth 100000 in
theorem d_M_wantItem_104 : Dc m_M_wantItem 104 (.invokevirtual 276) 3 107 := ⟨by decide +kernel, rfl⟩
set_option maxRecDepth 100000 in
theorem d_M_wantItem_107 : Dc m_M_wantItem 107 (.istore 4) 2 109 := ⟨by decide +kernel, rfl⟩
set_option maxRecDepth 100000 in
theorem d_M_wantItem_109 : Dc m_M_wantItem 109 (.iconst 0) 1 110 := ⟨by decide +kernel, rfl⟩
set_option maxRecDepth 100000 in
theorem d_M_wantItem_110 : Dc m_M_wantItem 110 (.istore 5) 2 112 := ⟨by decide +kernel, rfl⟩
set_option maxRecDepth 100000 in
theorem d_M_wantItem_112 : Dc m_M_wantItem 112 (.iload_n 2) 1 113 := ⟨by decide +kernel, rfl⟩
set_option maxRecDepth 100000 in
theorem d_M_wantItem_113 : Dj m_M_wantItem 113 (.ifCond .ne) 116 162 := ⟨49, by decide +kernel, rfl, by decide⟩
set_option maxRecDepth 100000 in
theorem d_M_wantItem_116 : Dc m_M_wantItem 116 (.aload_n 0) 1 117 := ⟨by decide +kernel, rfl⟩
set_option maxRecDepth 100000 in
theorem d_M_wantItem_117 : Dc m_M_wantItem 117 (.aload_n 0) 1 118 := ⟨by decide +kernel, rfl⟩
set_option maxRecDepth 100000 in
theorem d_M_wantItem_118 : Dc m_M_wantItem 118 (.getfield 259) 3 121 := ⟨by decide +kernel, rfl⟩
set_option maxRecDepth 100000 in
theorem d_M_wantItem_121 : Dj m_M_wantItem 121 (.ifCond .eq) 124 138 := ⟨17, by decide +kernel, rfl, by decide⟩
set_option maxRecDepth 100000 in
theorem d_M_wantItem_124 : Dc m_M_wantItem 124 (.aload_n 0) 1 125 := ⟨by decide +kernel, rfl⟩
set_option maxRecDepth 100000 in
theorem d_M_wantItem_125 : Dc m_M_wantItem 125 (.ldc2_w 279) 3 128 := ⟨by decide +kernel, rfl⟩
set_option maxRecDepth 100000 in
theorem d_M_wantItem_128 : Dc m_M_wantItem 128 (.invokevirtual 268) 3 131 := ⟨by decide +kernel, rfl⟩
set_option maxRecDepth 100000 in
theorem d_M_wantItem_131 : Dj m_M_wantItem 131 (.ifCond .eq) 134 138 := ⟨7, by decide +kernel, rfl, by decide⟩
set_option maxRecDepth 100000 in
theorem d_M_wantItem_134 : Dc m_M_wantItem 134 (.iconst 1) 1 135 := ⟨by decide +kernel, rfl⟩
set_option maxRecDepth 100000 in
theorem d_M_wantItem_135 : Dj m_M_wantItem 135 .goto 138 139 := ⟨4, by decide +kernel, rfl, by decide⟩
set_option maxRecDepth 100000 in
theorem d_M_wantItem_138 : Dc m_M_wantItem 138 (.iconst 0) 1 139 := ⟨by decide +kernel, rfl⟩
set_option maxRecDepth 100000 in
theorem d_M_wantItem_139 : Dc m_M_wantItem 139 (.putfield 259) 3 142 := ⟨by decide +kernel, rfl⟩
set_option maxRecDepth 100000 in
theorem d_M_wantItem_142 : Dc m_M_wantItem 142 (.aload_n 0) 1 143 := ⟨by decide +kernel, rfl⟩
set_option maxRecDepth 100000 in
theorem d_M_wantItem_143 : Dc m_M_wantItem 143 (.getfield 259) 3 146 := ⟨by decide +kernel, rfl⟩
set_option maxRecDepth 100000 in
theorem d_M_wantItem_146 : Dj m_M_wantItem 146 (.ifCond .eq) 149 153 := ⟨7, by decide +kernel, rfl, by decide⟩
set_option maxRecDepth 100000 in
theorem d_M_wantItem_149 : Dc m_M_wantItem 149 (.aload_n 0) 1 150 := ⟨by decide +kernel, rfl⟩
set_option maxRecDepth 100000 in
theorem d_M_wantItem_150 : Dc m_M_wantItem 150 (.invokevirtual 263) 3 153 := ⟨by decide +kernel, rfl⟩
set_option maxRecDepth 100000 in
theorem d_M_wantItem_153 : Dc m_M_wantItem 153 (.aload_n 0) 1 154 := ⟨by decide +kernel, rfl⟩
set_option maxRecDepth 100000 in
theorem d_M_wantItem_154 : Dc m_M_wantItem 154 (.iconst 1) 1 155 := ⟨by decide +kernel, rfl⟩
set_option maxRecDepth 100000 in
theorem d_M_wantItem_155 : Dc m_M_wantItem 155 (.bipush (9)) 2 157 := ⟨by decide +kernel, rfl⟩
set_option maxRecDepth 100000 in
theorem d_M_wantItem_157 : Dc m_M_wantItem 157 (.invokevirtual 276) 3 160 := ⟨by decide +kernel, rfl⟩
set_option maxRecDepth 100000 in
theorem d_M_wantItem_160 : Dc m_M_wantItem 160 (.istore 5) 2 162 := ⟨by decide +kernel, rfl⟩
set_option maxRecDepth 100000 in
theorem d_M_wantItem_162 : Dc m_M_wantItem 162 (.aload_n 0) 1 163 := ⟨by decide +kernel, rfl⟩
set_option maxRecDepth 100000 in
theorem d_M_wantItem_163 : Dc m_M_wantItem 163 (.aload_n 0) 1 164 := ⟨by decide +kernel, rfl⟩
set_option maxRecDepth 100000 in
theorem d_M_wantItem_164 : Dc m_M_wantItem 164 (.getfield 259) 3 167 := ⟨by decide +kernel, rfl⟩
set_option maxRecDepth 100000 in
theorem d_M_wantItem_167 : Dj m_M_wantItem 167 (.ifCond .eq) 170 183 := ⟨16, by decide +kernel, rfl, by decide⟩
set_option maxRecDepth 100000 in
theorem d_M_wantItem_170 : Dc m_M_wantItem 170 (.aload_n 0) 1 171 := ⟨by decide +kernel, rfl⟩
set_option maxRecDepth 100000 in
theorem d_M_wantItem_171 : Dc m_M_wantItem 171 (.bipush (59)) 2 173 := ⟨by decide +kernel, rfl⟩
set_option maxRecDepth 100000 in
theorem d_M_wantItem_173 : Dc m_M_wantItem 173 (.invokevirtual 281) 3 176 := ⟨by decide +kernel, rfl⟩
set_option maxRecDepth 100000 in
theorem d_M_wantItem_176 : Dj m_M_wantItem 176 (.ifCond .eq) 179 183 := ⟨7, by decide +kernel, rfl, by decide⟩
set_option maxRecDepth 100000 in
theorem d_M_wantItem_179 : Dc m_M_wantItem 179 (.iconst 1) 1 180 := ⟨by decide +kernel, rfl⟩
set_option maxRecDepth 100000 in
theorem d_M_wantItem_180 : Dj m_M_wantItem 180 .goto 183 184 := ⟨4, by decide +kernel, rfl, by decide⟩
set_option maxRecDepth 100000 in
theorem d_M_wantItem_183 : Dc m_M_wantItem 183 (.iconst 0) 1 184 := ⟨by decide +kernel, rfl⟩
set_option maxRecDepth 100000 in
theorem d_M_wantItem_184 : Dc m_M_wantItem 184 (.putfield 259) 3 187 := ⟨by decide +kernel, rfl⟩
set_option maxRecDepth 100000 in
theorem d_M_wantItem_187 : Dc m_M_wantItem 187 (.aload_n 0) 1 188 := ⟨by decide +kernel, rfl⟩
set_option maxRecDepth 100000 in
theorem d_M_wantItem_188 : Dc m_M_wantItem 188 (.getfield 259) 3 191 := ⟨by decide +kernel, rfl⟩
set_option maxRecDepth 100000 in
theorem d_M_wantItem_191 : Dj m_M_wantItem 191 (.ifCond .eq) 194 244 := ⟨53, by decide +kernel, rfl, by decide⟩
set_option maxRecDepth 100000 in
theorem d_M_wantItem_194 : Dc m_M_wantItem 194 (.aload_n 0) 1 195 := ⟨by decide +kernel, rfl⟩
set_option maxRecDepth 100000 in
theorem d_M_wantItem_195 : Dc m_M_wantItem 195 (.invokevirtual 263) 3 198 := ⟨by decide +kernel, rfl⟩
set_option maxRecDepth 100000 in
theorem d_M_wantItem_198 : Dc m_M_wantItem 198 (.aload_n 0) 1 199 := ⟨by decide +kernel, rfl⟩
set_option maxRecDepth 100000 in
theorem d_M_wantItem_199 : Dc m_M_wantItem 199 (.getfield 35) 3 202 := ⟨by decide +kernel, rfl⟩
set_option maxRecDepth 100000 in
theorem d_M_wantItem_202 : Dc m_M_wantItem 202 (.iconst 3) 1 203 := ⟨by decide +kernel, rfl⟩
set_option maxRecDepth 100000 in
theorem d_M_wantItem_203 : Dc m_M_wantItem 203 (.iload_n 1) 1 204 := ⟨by decide +kernel, rfl⟩
set_option maxRecDepth 100000 in
theorem d_M_wantItem_204 : Dc m_M_wantItem 204 .imul 1 205 := ⟨by decide +kernel, rfl⟩
set_option maxRecDepth 100000 in
theorem d_M_wantItem_205 : Dc m_M_wantItem 205 (.iload_n 2) 1 206 := ⟨by decide +kernel, rfl⟩
set_option maxRecDepth 100000 in
theorem d_M_wantItem_206 : Dc m_M_wantItem 206 .iastore 1 207 := ⟨by decide +kernel, rfl⟩
set_option maxRecDepth 100000 in
theorem d_M_wantItem_207 : Dc m_M_wantItem 207 (.aload_n 0) 1 208 := ⟨by decide +kernel, rfl⟩
set_option maxRecDepth 100000 in
theorem d_M_wantItem_208 : Dc m_M_wantItem 208 (.getfield 35) 3 211 := ⟨by decide +kernel, rfl⟩
set_option maxRecDepth 100000 in
theorem d_M_wantItem_211 : Dc m_M_wantItem 211 (.iconst 3) 1 212 := ⟨by decide +kernel, rfl⟩
set_option maxRecDepth 100000 in
theorem d_M_wantItem_212 : Dc m_M_wantItem 212 (.iload_n 1) 1 213 := ⟨by decide +kernel, rfl⟩
set_option maxRecDepth 100000 in
theorem d_M_wantItem_213 : Dc m_M_wantItem 213 .imul 1 214 := ⟨by decide +kernel, rfl⟩
set_option maxRecDepth 100000 in
theorem d_M_wantItem_214 : Dc m_M_wantItem 214 (.iconst 1) 1 215 := ⟨by decide +kernel, rfl⟩
set_option maxRecDepth 100000 in
theorem d_M_wantItem_215 : Dc m_M_wantItem 215 .iadd 1 216 := ⟨by decide +kernel, rfl⟩
set_option maxRecDepth 100000 in
theorem d_M_wantItem_216 : Dc m_M_wantItem 216 (.iload_n 2) 1 217 := ⟨by decide +kernel, rfl⟩
set_option maxRecDepth 100000 in
theorem d_M_wantItem_217 : Dc m_M_wantItem 217 (.iconst 2) 1 218 := ⟨by decide +kernel, rfl⟩
set_option maxRecDepth 100000 in
theorem d_M_wantItem_218 : Dj m_M_wantItem 218 (.if_icmp .ne) 221 225 := ⟨7, by decide +kernel, rfl, by decide⟩
set_option maxRecDepth 100000 in
theorem d_M_wantItem_221 : Dc m_M_wantItem 221 (.iload_n 3) 1 222 := ⟨by decide +kernel, rfl⟩
set_option maxRecDepth 100000 in
theorem d_M_wantItem_222 : Dj m_M_wantItem 222 .goto 225 231 := ⟨9, by decide +kernel, rfl, by decide⟩
set_option maxRecDepth 100000 in
theorem d_M_wantItem_225 : Dc m_M_wantItem 225 (.iload_n 3) 1 226 := ⟨by decide +kernel, rfl⟩
set_option maxRecDepth 100000 in
theorem d_M_wantItem_226 : Dc m_M_wantItem 226 (.iload 4) 2 228 := ⟨by decide +kernel, rfl⟩
set_option maxRecDepth 100000 in
theorem d_M_wantItem_228 : Dc m_M_wantItem 228 (.invokestatic 83) 3 231 := ⟨by decide +kernel, rfl⟩
set_option maxRecDepth 100000 in
theorem d_M_wantItem_231 : Dc m_M_wantItem 231 .iastore 1 232 := ⟨by decide +kernel, rfl⟩
set_option maxRecDepth 100000 in
theorem d_M_wantItem_232 : Dc m_M_wantItem 232 (.aload_n 0) 1 233 := ⟨by decide +kernel, rfl⟩
set_option maxRecDepth 100000 in
theorem d_M_wantItem_233 : Dc m_M_wantItem 233 (.getfield 35) 3 236 := ⟨by decide +kernel, rfl⟩
set_option maxRecDepth 100000 in
theorem d_M_wantItem_236 : Dc m_M_wantItem 236 (.iconst 3) 1 237 := ⟨by decide +kernel, rfl⟩
set_option maxRecDepth 100000 in
theorem d_M_wantItem_237 : Dc m_M_wantItem 237 (.iload_n 1) 1 238 := ⟨by decide +kernel, rfl⟩
set_option maxRecDepth 100000 in
theorem d_M_wantItem_238 : Dc m_M_wantItem 238 .imul 1 239 := ⟨by decide +kernel, rfl⟩
set_option maxRecDepth 100000 in
theorem d_M_wantItem_239 : Dc m_M_wantItem 239 (.iconst 2) 1 240 := ⟨by decide +kernel, rfl⟩
set_option maxRecDepth 100000 in
theorem d_M_wantItem_240 : Dc m_M_wantItem 240 .iadd 1 241 := ⟨by decide +kernel, rfl⟩
set_option maxRecDepth 100000 in
theorem d_M_wantItem_241 : Dc m_M_wantItem 241 (.iload 5) 2 243 := ⟨by decide +kernel, rfl⟩
set_option maxRecDepth 100000 in
theorem d_M_wantItem_243 : Dc m_M_wantItem 243 .iastore 1 244 := ⟨by decide +kernel, rfl⟩
set_option maxRecDepth 100000 in
theorem d_M_wantItem_244 : Dc m_M_wantItem 244 .return_ 1 245 := ⟨by decide +kernel, rfl⟩
set_option maxRecDepth 100000 in
theorem d_M_lesson_0 : Dc m_M_lesson 0 (.aload_n 0) 1 1 := ⟨by decide +kernel, rfl⟩
set_option maxRecDepth 100000 in
theorem d_M_lesson_1 : Dc m_M_lesson 1 (.iconst 0) 1 2 := ⟨by decide +kernel, rfl⟩
set_option maxRecDepth 100000 in
theorem d_M_lesson_2 : Dc m_M_lesson 2 (.putfield 230) 3 5 := ⟨by decide +kernel, rfl⟩
set_option maxRecDepth 100000 in
theorem d_M_lesson_5 : Dc m_M_lesson 5 (.aload_n 0) 1 6 := ⟨by decide +kernel, rfl⟩
set_option maxRecDepth 100000 in
theorem d_M_lesson_6 : Dc m_M_lesson 6 (.iconst 1) 1 7 := ⟨by decide +kernel, rfl⟩
set_option maxRecDepth 100000 in
theorem d_M_lesson_7 : Dc m_M_lesson 7 (.putfield 259) 3 10 := ⟨by decide +kernel, rfl⟩
set_option maxRecDepth 100000 in
theorem d_M_lesson_10 : Dc m_M_lesson 10 (.iconst 0) 1 11 := ⟨by decide +kernel, rfl⟩
set_option maxRecDepth 100000 in
theorem d_M_lesson_11 : Dc m_M_lesson 11 (.istore_n 1) 1 12 := ⟨by decide +kernel, rfl⟩
set_option maxRecDepth 100000 in
theorem d_M_lesson_12 : Dc m_M_lesson 12 (.aload_n 0) 1 13 := ⟨by decide +kernel, rfl⟩
set_option maxRecDepth 100000 in
theorem d_M_lesson_13 : Dc m_M_lesson 13 (.invokevirtual 263) 3 16 := ⟨by decide +kernel, rfl⟩
set_option maxRecDepth 100000 in
theorem d_M_lesson_16 : Dc m_M_lesson 16 (.aload_n 0) 1 17 := ⟨by decide +kernel, rfl⟩
set_option maxRecDepth 100000 in
theorem d_M_lesson_17 : Dc m_M_lesson 17 (.getfield 259) 3 20 := ⟨by decide +kernel, rfl⟩
set_option maxRecDepth 100000 in
theorem d_M_lesson_20 : Dj m_M_lesson 20 (.ifCond .eq) 23 41 := ⟨21, by decide +kernel, rfl, by decide⟩
set_option maxRecDepth 100000 in
theorem d_M_lesson_23 : Dc m_M_lesson 23 (.aload_n 0) 1 24 := ⟨by decide +kernel, rfl⟩
set_option maxRecDepth 100000 in
theorem d_M_lesson_24 : Dc m_M_lesson 24 (.getfield 245) 3 27 := ⟨by decide +kernel, rfl⟩
set_option maxRecDepth 100000 in
theorem d_M_lesson_27 : Dj m_M_lesson 27 (.ifCond .eq) 30 41 := ⟨14, by decide +kernel, rfl, by decide⟩
set_option maxRecDepth 100000 in
theorem d_M_lesson_30 : Dc m_M_lesson 30 (.aload_n 0) 1 31 := ⟨by decide +kernel, rfl⟩
set_option maxRecDepth 100000 in
theorem d_M_lesson_31 : Dc m_M_lesson 31 (.iload_n 1) 1 32 := ⟨by decide +kernel, rfl⟩
set_option maxRecDepth 100000 in
theorem d_M_lesson_32 : Dc m_M_lesson 32 (.invokevirtual 284) 3 35 := ⟨by decide +kernel, rfl⟩
set_option maxRecDepth 100000 in
theorem d_M_lesson_35 : Dc m_M_lesson 35 (.iinc 1 (1)) 3 38 := ⟨by decide +kernel, rfl⟩
set_option maxRecDepth 100000 in
theorem d_M_lesson_38 : Dj m_M_lesson 38 .goto 41 16 := ⟨-22, by decide +kernel, rfl, by decide⟩
set_option maxRecDepth 100000 in
theorem d_M_lesson_41 : Dc m_M_lesson 41 (.aload_n 0) 1 42 := ⟨by decide +kernel, rfl⟩
set_option maxRecDepth 100000 in
theorem d_M_lesson_42 : Dc m_M_lesson 42 (.iconst 0) 1 43 := ⟨by decide +kernel, rfl⟩
set_option maxRecDepth 100000 in
theorem d_M_lesson_43 : Dc m_M_lesson 43 (.putfield 225) 3 46 := ⟨by decide +kernel, rfl⟩
set_option maxRecDepth 100000 in
theorem d_M_lesson_46 : Dc m_M_lesson 46 (.aload_n 0) 1 47 := ⟨by decide +kernel, rfl⟩
set_option maxRecDepth 100000 in
theorem d_M_lesson_47 : Dc m_M_lesson 47 (.getfield 259) 3 50 := ⟨by decide +kernel, rfl⟩
set_option maxRecDepth 100000 in
theorem d_M_lesson_50 : Dj m_M_lesson 50 (.ifCond .ne) 53 61 := ⟨11, by decide +kernel, rfl, by decide⟩
set_option maxRecDepth 100000 in
theorem d_M_lesson_53 : Dc m_M_lesson 53 (.bipush (-100)) 2 55 := ⟨by decide +kernel, rfl⟩
set_option maxRecDepth 100000 in
theorem d_M_lesson_55 : Dc m_M_lesson 55 (.aload_n 0) 1 56 := ⟨by decide +kernel, rfl⟩
set_option maxRecDepth 100000 in
theorem d_M_lesson_56 : Dc m_M_lesson 56 (.getfield 233) 3 59 := ⟨by decide +kernel, rfl⟩
set_option maxRecDepth 100000 in
theorem d_M_lesson_59 : Dc m_M_lesson 59 .isub 1 60 := ⟨by decide +kernel, rfl⟩
set_option maxRecDepth 100000 in
theorem d_M_lesson_60 : Dc m_M_lesson 60 .ireturn 1 61 := ⟨by decide +kernel, rfl⟩
set_option maxRecDepth 100000 in
theorem d_M_lesson_61 : Dc m_M_lesson 61 (.aload_n 0) 1 62 := ⟨by decide +kernel, rfl⟩
set_option maxRecDepth 100000 in
theorem d_M_lesson_62 : Dc m_M_lesson 62 (.iload_n 1) 1 63 := ⟨by decide +kernel, rfl⟩
set_option maxRecDepth 100000 in
theorem d_M_lesson_63 : Dc m_M_lesson 63 (.putfield 288) 3 66 := ⟨by decide +kernel, rfl⟩
set_option maxRecDepth 100000 in
theorem d_M_lesson_66 : Dc m_M_lesson 66 (.iconst 0) 1 67 := ⟨by decide +kernel, rfl⟩
set_option maxRecDepth 100000 in
theorem d_M_lesson_67 : Dc m_M_lesson 67 (.istore_n 2) 1 68 := ⟨by decide +kernel, rfl⟩
set_option maxRecDepth 100000 in
theorem d_M_lesson_68 : Dc m_M_lesson 68 (.iload_n 2) 1 69 := ⟨by decide +kernel, rfl⟩
set_option maxRecDepth 100000 in
theorem d_M_lesson_69 : Dc m_M_lesson 69 (.iconst 3) 1 70 := ⟨by decide +kernel, rfl⟩
set_option maxRecDepth 100000 in
theorem d_M_lesson_70 : Dc m_M_lesson 70 (.iload_n 1) 1 71 := ⟨by decide +kernel, rfl⟩
set_option maxRecDepth 100000 in
theorem d_M_lesson_71 : Dc m_M_lesson 71 .imul 1 72 := ⟨by decide +kernel, rfl⟩
set_option maxRecDepth 100000 in
theorem d_M_lesson_72 : Dj m_M_lesson 72 (.if_icmp .ge) 75 93 := ⟨21, by decide +kernel, rfl, by decide⟩
set_option maxRecDepth 100000 in
theorem d_M_lesson_75 : Dc m_M_lesson 75 (.aload_n 0) 1 76 := ⟨by decide +kernel, rfl⟩
set_option maxRecDepth 100000 in
theorem d_M_lesson_76 : Dc m_M_lesson 76 (.getfield 32) 3 79 := ⟨by decide +kernel, rfl⟩
set_option maxRecDepth 100000 in
theorem d_M_lesson_79 : Dc m_M_lesson 79 (.iload_n 2) 1 80 := ⟨by decide +kernel, rfl⟩
set_option maxRecDepth 100000 in
theorem d_M_lesson_80 : Dc m_M_lesson 80 (.aload_n 0) 1 81 := ⟨by decide +kernel, rfl⟩
set_option maxRecDepth 100000 in
theorem d_M_lesson_81 : Dc m_M_lesson 81 (.getfield 35) 3 84 := ⟨by decide +kernel, rfl⟩
set_option maxRecDepth 100000 in
theorem d_M_lesson_84 : Dc m_M_lesson 84 (.iload_n 2) 1 85 := ⟨by decide +kernel, rfl⟩
set_option maxRecDepth 100000 in
theorem d_M_lesson_85 : Dc m_M_lesson 85 .iaload 1 86 := ⟨by decide +kernel, rfl⟩
set_option maxRecDepth 100000 in
theorem d_M_lesson_86 : Dc m_M_lesson 86 .iastore 1 87 := ⟨by decide +kernel, rfl⟩
set_option maxRecDepth 100000 in
theorem d_M_lesson_87 : Dc m_M_lesson 87 (.iinc 2 (1)) 3 90 := ⟨by decide +kernel, rfl⟩
set_option maxRecDepth 100000 in
theorem d_M_lesson_90 : Dj m_M_lesson 90 .goto 93 68 := ⟨-22, by decide +kernel, rfl, by decide⟩
set_option maxRecDepth 100000 in
theorem d_M_lesson_93 : Dc m_M_lesson 93 (.aload_n 0) 1 94 := ⟨by decide +kernel, rfl⟩
set_option maxRecDepth 100000 in
theorem d_M_lesson_94 : Dc m_M_lesson 94 (.getfield 288) 3 97 := ⟨by decide +kernel, rfl⟩
set_option maxRecDepth 100000 in
theorem d_M_lesson_97 : Dc m_M_lesson 97 .ireturn 1 98 := ⟨by decide +kernel, rfl⟩
set_option maxRecDepth 100000 in
theorem d_M_does_0 : Dc m_M_does 0 (.aload_n 0) 1 1 := ⟨by decide +kernel, rfl⟩
set_option maxRecDepth 100000 in
theorem d_M_does_1 : Dc m_M_does 1 (.getfield 32) 3 4 := ⟨by decide +kernel, rfl⟩
set_option maxRecDepth 100000 in
theorem d_M_does_4 : Dc m_M_does 4 (.iconst 3) 1 5 := ⟨by decide +kernel, rfl⟩
set_option maxRecDepth 100000 in
theorem d_M_does_5 : Dc m_M_does 5 (.iload_n 2) 1 6 := ⟨by decide +kernel, rfl⟩
set_option maxRecDepth 100000 in
theorem d_M_does_6 : Dc m_M_does 6 .imul 1 7 := ⟨by decide +kernel, rfl⟩
set_option maxRecDepth 100000 in
theorem d_M_does_7 : Dc m_M_does 7 (.iconst 1) 1 8 := ⟨by decide +kernel, rfl⟩
set_option maxRecDepth 100000 in
theorem d_M_does_8 : Dc m_M_does 8 .iadd 1 9 := ⟨by decide +kernel, rfl⟩
set_option maxRecDepth 100000 in
theorem d_M_does_9 : Dc m_M_does 9 .iaload 1 10 := ⟨by decide +kernel, rfl⟩
set_option maxRecDepth 100000 in
theorem d_M_does_10 : Dc m_M_does 10 (.istore_n 3) 1 11 := ⟨by decide +kernel, rfl⟩
set_option maxRecDepth 100000 in
theorem d_M_does_11 : Dc m_M_does 11 (.aload_n 0) 1 12 := ⟨by decide +kernel, rfl⟩
set_option maxRecDepth 100000 in
theorem d_M_does_12 : Dc m_M_does 12 (.getfield 32) 3 15 := ⟨by decide +kernel, rfl⟩
set_option maxRecDepth 100000 in
theorem d_M_does_15 : Dc m_M_does 15 (.iconst 3) 1 16 := ⟨by decide +kernel, rfl⟩
set_option maxRecDepth 100000 in
theorem d_M_does_16 : Dc m_M_does 16 (.iload_n 2) 1 17 := ⟨by decide +kernel, rfl⟩
set_option maxRecDepth 100000 in
theorem d_M_does_17 : Dc m_M_does 17 .imul 1 18 := ⟨by decide +kernel, rfl⟩
set_option maxRecDepth 100000 in
theorem d_M_does_18 : Dc m_M_does 18 .iaload 1 19 := ⟨by decide +kernel, rfl⟩
set_option maxRecDepth 100000 in
theorem d_M_does_19 : Lsw m_M_does 19 [(0, 44), (1, 61)] 69 := ⟨50, [(0, 25), (1, 42)], 25, by decide +kernel, by decide, by decide +kernel, by decide +kernel⟩
set_option maxRecDepth 100000 in
theorem d_M_does_44 : Dc m_M_does 44 (.aload_n 0) 1 45 := ⟨by decide +kernel, rfl⟩
set_option maxRecDepth 100000 in
theorem d_M_does_45 : Dc m_M_does 45 (.iload_n 1) 1 46 := ⟨by decide +kernel, rfl⟩
set_option maxRecDepth 100000 in
theorem d_M_does_46 : Dc m_M_does 46 (.iload_n 3) 1 47 := ⟨by decide +kernel, rfl⟩
set_option maxRecDepth 100000 in
theorem d_M_does_47 : Dc m_M_does 47 (.aload_n 0) 1 48 := ⟨by decide +kernel, rfl⟩
set_option maxRecDepth 100000 in
theorem d_M_does_48 : Dc m_M_does 48 (.getfield 32) 3 51 := ⟨by decide +kernel, rfl⟩
set_option maxRecDepth 100000 in
theorem d_M_does_51 : Dc m_M_does 51 (.iconst 3) 1 52 := ⟨by decide +kernel, rfl⟩
set_option maxRecDepth 100000 in
theorem d_M_does_52 : Dc m_M_does 52 (.iload_n 2) 1 53 := ⟨by decide +kernel, rfl⟩
set_option maxRecDepth 100000 in
theorem d_M_does_53 : Dc m_M_does 53 .imul 1 54 := ⟨by decide +kernel, rfl⟩
set_option maxRecDepth 100000 in
theorem d_M_does_54 : Dc m_M_does 54 (.iconst 2) 1 55 := ⟨by decide +kernel, rfl⟩
set_option maxRecDepth 100000 in
theorem d_M_does_55 : Dc m_M_does 55 .iadd 1 56 := ⟨by decide +kernel, rfl⟩
set_option maxRecDepth 100000 in
theorem d_M_does_56 : Dc m_M_does 56 .iaload 1 57 := ⟨by decide +kernel, rfl⟩
set_option maxRecDepth 100000 in
theorem d_M_does_57 : Dc m_M_does 57 (.invokevirtual 183) 3 60 := ⟨by decide +kernel, rfl⟩
set_option maxRecDepth 100000 in
theorem d_M_does_60 : Dc m_M_does 60 .ireturn 1 61 := ⟨by decide +kernel, rfl⟩
set_option maxRecDepth 100000 in
theorem d_M_does_61 : Dc m_M_does 61 (.aload_n 0) 1 62 := ⟨by decide +kernel, rfl⟩
set_option maxRecDepth 100000 in
theorem d_M_does_62 : Dc m_M_does 62 (.iload_n 1) 1 63 := ⟨by decide +kernel, rfl⟩
set_option maxRecDepth 100000 in
theorem d_M_does_63 : Dc m_M_does 63 (.iload_n 3) 1 64 := ⟨by decide +kernel, rfl⟩
set_option maxRecDepth 100000 in
theorem d_M_does_64 : Dc m_M_does 64 (.invokevirtual 186) 3 67 := ⟨by decide +kernel, rfl⟩
set_option maxRecDepth 100000 in
theorem d_M_does_67 : Dc m_M_does 67 (.iconst 0) 1 68 := ⟨by decide +kernel, rfl⟩
set_option maxRecDepth 100000 in
theorem d_M_does_68 : Dc m_M_does 68 .ireturn 1 69 := ⟨by decide +kernel, rfl⟩
set_option maxRecDepth 100000 in
theorem d_M_does_69 : Dc m_M_does 69 (.iconst 0) 1 70 := ⟨by decide +kernel, rfl⟩
set_option maxRecDepth 100000 in
theorem d_M_does_70 : Dc m_M_does 70 (.istore 4) 2 72 := ⟨by decide +kernel, rfl⟩
set_option maxRecDepth 100000 in
theorem d_M_does_72 : Dc m_M_does 72 (.iload 4) 2 74 := ⟨by decide +kernel, rfl⟩
set_option maxRecDepth 100000 in
theorem d_M_does_74 : Dc m_M_does 74 (.iload_n 3) 1 75 := ⟨by decide +kernel, rfl⟩
set_option maxRecDepth 100000 in
theorem d_M_does_75 : Dj m_M_does 75 (.if_icmp .ge) 78 88 := ⟨13, by decide +kernel, rfl, by decide⟩
set_option maxRecDepth 100000 in
theorem d_M_does_78 : Dc m_M_does 78 (.aload_n 0) 1 79 := ⟨by decide +kernel, rfl⟩
set_option maxRecDepth 100000 in
theorem d_M_does_79 : Dc m_M_does 79 (.invokevirtual 190) 3 82 := ⟨by decide +kernel, rfl⟩
set_option maxRecDepth 100000 in
theorem d_M_does_82 : Dc m_M_does 82 (.iinc 4 (1)) 3 85 := ⟨by decide +kernel, rfl⟩
set_option maxRecDepth 100000 in
theorem d_M_does_85 : Dj m_M_does 85 .goto 88 72 := ⟨-13, by decide +kernel, rfl, by decide⟩
set_option maxRecDepth 100000 in
theorem d_M_does_88 : Dc m_M_does 88 (.iconst 0) 1 89 := ⟨by decide +kernel, rfl⟩
set_option maxRecDepth 100000 in
theorem d_M_does_89 : Dc m_M_does 89 .ireturn 1 90 := ⟨by decide +kernel, rfl⟩
set_option maxRecDepth 100000 in
theorem d_M_give_0 : Dc m_M_give 0 (.aload_n 0) 1 1 := ⟨by decide +kernel, rfl⟩
set_option maxRecDepth 100000 in
theorem d_M_give_1 : Dc m_M_give 1 (.iload_n 1) 1 2 := ⟨by decide +kernel, rfl⟩
set_option maxRecDepth 100000 in
theorem d_M_give_2 : Dc m_M_give 2 (.invokevirtual 115) 3 5 := ⟨by decide +kernel, rfl⟩
set_option maxRecDepth 100000 in
theorem d_M_give_5 : Dj m_M_give 5 (.ifCond .ne) 8 10 := ⟨5, by decide +kernel, rfl, by decide⟩
set_option maxRecDepth 100000 in
theorem d_M_give_8 : Dc m_M_give 8 (.iconst (-1)) 1 9 := ⟨by decide +kernel, rfl⟩
set_option maxRecDepth 100000 in
theorem d_M_give_9 : Dc m_M_give 9 .ireturn 1 10 := ⟨by decide +kernel, rfl⟩
set_option maxRecDepth 100000 in
theorem d_M_give_10 : Dc m_M_give 10 (.iconst 0) 1 11 := ⟨by decide +kernel, rfl⟩
set_option maxRecDepth 100000 in
theorem d_M_give_11 : Dc m_M_give 11 (.istore_n 2) 1 12 := ⟨by decide +kernel, rfl⟩
set_option maxRecDepth 100000 in
theorem d_M_give_12 : Dc m_M_give 12 (.iconst 0) 1 13 := ⟨by decide +kernel, rfl⟩
set_option maxRecDepth 100000 in
theorem d_M_give_13 : Dc m_M_give 13 (.istore_n 3) 1 14 := ⟨by decide +kernel, rfl⟩
set_option maxRecDepth 100000 in
theorem d_M_give_14 : Dc m_M_give 14 (.iload_n 3) 1 15 := ⟨by decide +kernel, rfl⟩
set_option maxRecDepth 100000 in
theorem d_M_give_15 : Dc m_M_give 15 (.aload_n 0) 1 16 := ⟨by decide +kernel, rfl⟩
set_option maxRecDepth 100000 in
theorem d_M_give_16 : Dc m_M_give 16 (.getfield 288) 3 19 := ⟨by decide +kernel, rfl⟩
set_option maxRecDepth 100000 in
theorem d_M_give_19 : Dj m_M_give 19 (.if_icmp .ge) 22 63 := ⟨44, by decide +kernel, rfl, by decide⟩
set_option maxRecDepth 100000 in
theorem d_M_give_22 : Dc m_M_give 22 (.aload_n 0) 1 23 := ⟨by decide +kernel, rfl⟩
set_option maxRecDepth 100000 in
theorem d_M_give_23 : Dc m_M_give 23 (.iload_n 1) 1 24 := ⟨by decide +kernel, rfl⟩
set_option maxRecDepth 100000 in
theorem d_M_give_24 : Dc m_M_give 24 (.iload_n 3) 1 25 := ⟨by decide +kernel, rfl⟩
set_option maxRecDepth 100000 in
theorem d_M_give_25 : Dc m_M_give 25 (.invokevirtual 291) 3 28 := ⟨by decide +kernel, rfl⟩
set_option maxRecDepth 100000 in
theorem d_M_give_28 : Dc m_M_give 28 (.istore 4) 2 30 := ⟨by decide +kernel, rfl⟩
set_option maxRecDepth 100000 in
theorem d_M_give_30 : Dc m_M_give 30 (.iload_n 2) 1 31 := ⟨by decide +kernel, rfl⟩
set_option maxRecDepth 100000 in
theorem d_M_give_31 : Dc m_M_give 31 (.aload_n 0) 1 32 := ⟨by decide +kernel, rfl⟩
set_option maxRecDepth 100000 in
theorem d_M_give_32 : Dc m_M_give 32 (.getfield 32) 3 35 := ⟨by decide +kernel, rfl⟩
set_option maxRecDepth 100000 in
theorem d_M_give_35 : Dc m_M_give 35 (.iconst 3) 1 36 := ⟨by decide +kernel, rfl⟩
set_option maxRecDepth 100000 in
theorem d_M_give_36 : Dc m_M_give 36 (.iload_n 3) 1 37 := ⟨by decide +kernel, rfl⟩
set_option maxRecDepth 100000 in
theorem d_M_give_37 : Dc m_M_give 37 .imul 1 38 := ⟨by decide +kernel, rfl⟩
set_option maxRecDepth 100000 in
theorem d_M_give_38 : Dc m_M_give 38 .iaload 1 39 := ⟨by decide +kernel, rfl⟩
set_option maxRecDepth 100000 in
theorem d_M_give_39 : Dj m_M_give 39 (.ifCond .ne) 42 54 := ⟨15, by decide +kernel, rfl, by decide⟩
set_option maxRecDepth 100000 in
theorem d_M_give_42 : Dc m_M_give 42 (.aload_n 0) 1 43 := ⟨by decide +kernel, rfl⟩
set_option maxRecDepth 100000 in
theorem d_M_give_43 : Dc m_M_give 43 (.getfield 161) 3 46 := ⟨by decide +kernel, rfl⟩
set_option maxRecDepth 100000 in
theorem d_M_give_46 : Dc m_M_give 46 (.iconst 1) 1 47 := ⟨by decide +kernel, rfl⟩
set_option maxRecDepth 100000 in
theorem d_M_give_47 : Dj m_M_give 47 (.if_icmp .gt) 50 54 := ⟨7, by decide +kernel, rfl, by decide⟩
set_option maxRecDepth 100000 in
theorem d_M_give_50 : Dc m_M_give 50 (.iconst 1) 1 51 := ⟨by decide +kernel, rfl⟩
set_option maxRecDepth 100000 in
theorem d_M_give_51 : Dj m_M_give 51 .goto 54 55 := ⟨4, by decide +kernel, rfl, by decide⟩
set_option maxRecDepth 100000 in
theorem d_M_give_54 : Dc m_M_give 54 (.iconst 0) 1 55 := ⟨by decide +kernel, rfl⟩
set_option maxRecDepth 100000 in
theorem d_M_give_55 : Dc m_M_give 55 .iadd 1 56 := ⟨by decide +kernel, rfl⟩
set_option maxRecDepth 100000 in
theorem d_M_give_56 : Dc m_M_give 56 (.istore_n 2) 1 57 := ⟨by decide +kernel, rfl⟩
set_option maxRecDepth 100000 in
theorem d_M_give_57 : Dc m_M_give 57 (.iinc 3 (1)) 3 60 := ⟨by decide +kernel, rfl⟩
set_option maxRecDepth 100000 in
theorem d_M_give_60 : Dj m_M_give 60 .goto 63 14 := ⟨-46, by decide +kernel, rfl, by decide⟩
set_option maxRecDepth 100000 in
theorem d_M_give_63 : Dc m_M_give 63 (.iload_n 2) 1 64 := ⟨by decide +kernel, rfl⟩
set_option maxRecDepth 100000 in
theorem d_M_give_64 : Dc m_M_give 64 .ireturn 1 65 := ⟨by decide +kernel, rfl⟩
set_option maxRecDepth 100000 in
theorem d_M_item_0 : Dc m_M_item 0 (.iload_n 2) 1 1 := ⟨by decide +kernel, rfl⟩
set_option maxRecDepth 100000 in
theorem d_M_item_1 : Dc m_M_item 1 (.iconst 0) 1 2 := ⟨by decide +kernel, rfl⟩
set_option maxRecDepth 100000 in
theorem d_M_item_2 : Dc m_M_item 2 (.iconst 2) 1 3 := ⟨by decide +kernel, rfl⟩
set_option maxRecDepth 100000 in
theorem d_M_item_3 : Dc m_M_item 3 (.invokestatic 72) 3 6 := ⟨by decide +kernel, rfl⟩
set_option maxRecDepth 100000 in
theorem d_M_item_6 : Dj m_M_item 6 (.ifCond .ne) 9 11 := ⟨5, by decide +kernel, rfl, by decide⟩
set_option maxRecDepth 100000 in
theorem d_M_item_9 : Dc m_M_item 9 (.iconst (-1)) 1 10 := ⟨by decide +kernel, rfl⟩
set_option maxRecDepth 100000 in
theorem d_M_item_10 : Dc m_M_item 10 .ireturn 1 11 := ⟨by decide +kernel, rfl⟩
set_option maxRecDepth 100000 in
theorem d_M_item_11 : Dc m_M_item 11 (.iload_n 1) 1 12 := ⟨by decide +kernel, rfl⟩
set_option maxRecDepth 100000 in
theorem d_M_item_12 : Dc m_M_item 12 (.iconst 0) 1 13 := ⟨by decide +kernel, rfl⟩
set_option maxRecDepth 100000 in
theorem d_M_item_13 : Dc m_M_item 13 (.aload_n 0) 1 14 := ⟨by decide +kernel, rfl⟩
set_option maxRecDepth 100000 in
theorem d_M_item_14 : Dc m_M_item 14 (.getfield 288) 3 17 := ⟨by decide +kernel, rfl⟩
set_option maxRecDepth 100000 in
theorem d_M_item_17 : Dc m_M_item 17 (.iconst 1) 1 18 := ⟨by decide +kernel, rfl⟩
set_option maxRecDepth 100000 in
theorem d_M_item_18 : Dc m_M_item 18 .isub 1 19 := ⟨by decide +kernel, rfl⟩
set_option maxRecDepth 100000 in
theorem d_M_item_19 : Dc m_M_item 19 (.invokestatic 72) 3 22 := ⟨by decide +kernel, rfl⟩
set_option maxRecDepth 100000 in
theorem d_M_item_22 : Dj m_M_item 22 (.ifCond .eq) 25 38 := ⟨16, by decide +kernel, rfl, by decide⟩
set_option maxRecDepth 100000 in
theorem d_M_item_25 : Dc m_M_item 25 (.aload_n 0) 1 26 := ⟨by decide +kernel, rfl⟩
set_option maxRecDepth 100000 in
theorem d_M_item_26 : Dc m_M_item 26 (.getfield 32) 3 29 := ⟨by decide +kernel, rfl⟩
set_option maxRecDepth 100000 in
theorem d_M_item_29 : Dc m_M_item 29 (.iconst 3) 1 30 := ⟨by decide +kernel, rfl⟩
set_option maxRecDepth 100000 in
theorem d_M_item_30 : Dc m_M_item 30 (.iload_n 1) 1 31 := ⟨by decide +kernel, rfl⟩
set_option maxRecDepth 100000 in
theorem d_M_item_31 : Dc m_M_item 31 .imul 1 32 := ⟨by decide +kernel, rfl⟩
set_option maxRecDepth 100000 in
theorem d_M_item_32 : Dc m_M_item 32 (.iload_n 2) 1 33 := ⟨by decide +kernel, rfl⟩
set_option maxRecDepth 100000 in
theorem d_M_item_33 : Dc m_M_item 33 .iadd 1 34 := ⟨by decide +kernel, rfl⟩
set_option maxRecDepth 100000 in
theorem d_M_item_34 : Dc m_M_item 34 .iaload 1 35 := ⟨by decide +kernel, rfl⟩
set_option maxRecDepth 100000 in
theorem d_M_item_35 : Dj m_M_item 35 .goto 38 40 := ⟨5, by decide +kernel, rfl, by decide⟩
set_option maxRecDepth 100000 in
theorem d_M_item_38 : Dc m_M_item 38 (.bipush (-3)) 2 40 := ⟨by decide +kernel, rfl⟩
set_option maxRecDepth 100000 in
theorem d_M_item_40 : Dc m_M_item 40 .ireturn 1 41 := ⟨by decide +kernel, rfl⟩
set_option maxRecDepth 100000 in
theorem d_M_seed_0 : Dc m_M_seed 0 (.aload_n 0) 1 1 := ⟨by decide +kernel, rfl⟩
set_option maxRecDepth 100000 in
theorem d_M_seed_1 : Dc m_M_seed 1 (.getfield 19) 3 4 := ⟨by decide +kernel, rfl⟩
set_option maxRecDepth 100000 in
theorem d_M_seed_4 : Dc m_M_seed 4 (.istore_n 2) 1 5 := ⟨by decide +kernel, rfl⟩
set_option maxRecDepth 100000 in
theorem d_M_seed_5 : Dc m_M_seed 5 (.aload_n 0) 1 6 := ⟨by decide +kernel, rfl⟩
set_option maxRecDepth 100000 in
theorem d_M_seed_6 : Dc m_M_seed 6 (.iload_n 1) 1 7 := ⟨by decide +kernel, rfl⟩
set_option maxRecDepth 100000 in
theorem d_M_seed_7 : Dc m_M_seed 7 (.putfield 19) 3 10 := ⟨by decide +kernel, rfl⟩
set_option maxRecDepth 100000 in
theorem d_M_seed_10 : Dc m_M_seed 10 (.iload_n 2) 1 11 := ⟨by decide +kernel, rfl⟩
set_option maxRecDepth 100000 in
theorem d_M_seed_11 : Dc m_M_seed 11 .ireturn 1 12 := ⟨by decide +kernel, rfl⟩
set_option maxRecDepth 100000 in
theorem d_M_draw_0 : Dc m_M_draw 0 (.aload_n 0) 1 1 := ⟨by decide +kernel, rfl⟩
set_option maxRecDepth 100000 in
theorem d_M_draw_1 : Dc m_M_draw 1 (.iload_n 1) 1 2 := ⟨by decide +kernel, rfl⟩
set_option maxRecDepth 100000 in
theorem d_M_draw_2 : Dc m_M_draw 2 (.invokevirtual 115) 3 5 := ⟨by decide +kernel, rfl⟩
set_option maxRecDepth 100000 in
theorem d_M_draw_5 : Dj m_M_draw 5 (.ifCond .eq) 8 15 := ⟨10, by decide +kernel, rfl, by decide⟩
set_option maxRecDepth 100000 in
theorem d_M_draw_8 : Dc m_M_draw 8 (.iload_n 2) 1 9 := ⟨by decide +kernel, rfl⟩
set_option maxRecDepth 100000 in
theorem d_M_draw_9 : Dc m_M_draw 9 (.invokestatic 142) 3 12 := ⟨by decide +kernel, rfl⟩
set_option maxRecDepth 100000 in
theorem d_M_draw_12 : Dj m_M_draw 12 (.ifCond .ne) 15 17 := ⟨5, by decide +kernel, rfl, by decide⟩
set_option maxRecDepth 100000 in
theorem d_M_draw_15 : Dc m_M_draw 15 (.iconst (-1)) 1 16 := ⟨by decide +kernel, rfl⟩
set_option maxRecDepth 100000 in
theorem d_M_draw_16 : Dc m_M_draw 16 .ireturn 1 17 := ⟨by decide +kernel, rfl⟩
set_option maxRecDepth 100000 in
theorem d_M_draw_17 : Dc m_M_draw 17 (.invokestatic 205) 3 20 := ⟨by decide +kernel, rfl⟩
set_option maxRecDepth 100000 in
theorem d_M_draw_20 : Dc m_M_draw 20 (.aload_n 0) 1 21 := ⟨by decide +kernel, rfl⟩
set_option maxRecDepth 100000 in
theorem d_M_draw_21 : Dc m_M_draw 21 (.iload_n 1) 1 22 := ⟨by decide +kernel, rfl⟩
set_option maxRecDepth 100000 in
theorem d_M_draw_22 : Dc m_M_draw 22 (.iload_n 2) 1 23 := ⟨by decide +kernel, rfl⟩
set_option maxRecDepth 100000 in
theorem d_M_draw_23 : Dc m_M_draw 23 (.invokevirtual 196) 3 26 := ⟨by decide +kernel, rfl⟩
set_option maxRecDepth 100000 in
theorem d_M_draw_26 : Dc m_M_draw 26 (.ldc2_w 104) 3 29 := ⟨by decide +kernel, rfl⟩
set_option maxRecDepth 100000 in
theorem d_M_draw_29 : Dc m_M_draw 29 .lxor 1 30 := ⟨by decide +kernel, rfl⟩
set_option maxRecDepth 100000 in
theorem d_M_draw_30 : Dc m_M_draw 30 .land 1 31 := ⟨by decide +kernel, rfl⟩
set_option maxRecDepth 100000 in
theorem d_M_draw_31 : Dc m_M_draw 31 (.lstore_n 3) 1 32 := ⟨by decide +kernel, rfl⟩
set_option maxRecDepth 100000 in
theorem d_M_draw_32 : Dc m_M_draw 32 (.lload_n 3) 1 33 := ⟨by decide +kernel, rfl⟩
set_option maxRecDepth 100000 in
theorem d_M_draw_33 : Dc m_M_draw 33 (.lconst 0) 1 34 := ⟨by decide +kernel, rfl⟩
set_option maxRecDepth 100000 in
theorem d_M_draw_34 : Dc m_M_draw 34 .lcmp 1 35 := ⟨by decide +kernel, rfl⟩
set_option maxRecDepth 100000 in
theorem d_M_draw_35 : Dj m_M_draw 35 (.ifCond .ne) 38 41 := ⟨6, by decide +kernel, rfl, by decide⟩
set_option maxRecDepth 100000 in
theorem d_M_draw_38 : Dc m_M_draw 38 (.bipush (-3)) 2 40 := ⟨by decide +kernel, rfl⟩
set_option maxRecDepth 100000 in
theorem d_M_draw_40 : Dc m_M_draw 40 .ireturn 1 41 := ⟨by decide +kernel, rfl⟩
set_option maxRecDepth 100000 in
theorem d_M_draw_41 : Dc m_M_draw 41 (.aload_n 0) 1 42 := ⟨by decide +kernel, rfl⟩
set_option maxRecDepth 100000 in
theorem d_M_draw_42 : Dc m_M_draw 42 (.aload_n 0) 1 43 := ⟨by decide +kernel, rfl⟩
set_option maxRecDepth 100000 in
theorem d_M_draw_43 : Dc m_M_draw 43 (.getfield 19) 3 46 := ⟨by decide +kernel, rfl⟩
set_option maxRecDepth 100000 in
theorem d_M_draw_46 : Dc m_M_draw 46 (.ldc_w 294) 3 49 := ⟨by decide +kernel, rfl⟩
set_option maxRecDepth 100000 in
theorem d_M_draw_49 : Dc m_M_draw 49 .imul 1 50 := ⟨by decide +kernel, rfl⟩
set_option maxRecDepth 100000 in
theorem d_M_draw_50 : Dc m_M_draw 50 (.sipush (12345)) 3 53 := ⟨by decide +kernel, rfl⟩
set_option maxRecDepth 100000 in
theorem d_M_draw_53 : Dc m_M_draw 53 .iadd 1 54 := ⟨by decide +kernel, rfl⟩
set_option maxRecDepth 100000 in
theorem d_M_draw_54 : Dc m_M_draw 54 (.putfield 19) 3 57 := ⟨by decide +kernel, rfl⟩
set_option maxRecDepth 100000 in
theorem d_M_draw_57 : Dc m_M_draw 57 (.aload_n 0) 1 58 := ⟨by decide +kernel, rfl⟩
set_option maxRecDepth 100000 in
theorem d_M_draw_58 : Dc m_M_draw 58 (.getfield 19) 3 61 := ⟨by decide +kernel, rfl⟩
set_option maxRecDepth 100000 in
theorem d_M_draw_61 : Dc m_M_draw 61 (.bipush (16)) 2 63 := ⟨by decide +kernel, rfl⟩
set_option maxRecDepth 100000 in
theorem d_M_draw_63 : Dc m_M_draw 63 .iushr 1 64 := ⟨by decide +kernel, rfl⟩
set_option maxRecDepth 100000 in
theorem d_M_draw_64 : Dc m_M_draw 64 (.lload_n 3) 1 65 := ⟨by decide +kernel, rfl⟩
set_option maxRecDepth 100000 in
theorem d_M_draw_65 : Dc m_M_draw 65 (.invokestatic 212) 3 68 := ⟨by decide +kernel, rfl⟩
set_option maxRecDepth 100000 in
theorem d_M_draw_68 : Dc m_M_draw 68 .irem 1 69 := ⟨by decide +kernel, rfl⟩
set_option maxRecDepth 100000 in
theorem d_M_draw_69 : Dc m_M_draw 69 (.istore 5) 2 71 := ⟨by decide +kernel, rfl⟩
set_option maxRecDepth 100000 in
theorem d_M_draw_71 : Dc m_M_draw 71 (.iconst 0) 1 72 := ⟨by decide +kernel, rfl⟩
set_option maxRecDepth 100000 in
theorem d_M_draw_72 : Dc m_M_draw 72 (.istore 6) 2 74 := ⟨by decide +kernel, rfl⟩
set_option maxRecDepth 100000 in
theorem d_M_draw_74 : Dc m_M_draw 74 (.lload_n 3) 1 75 := ⟨by decide +kernel, rfl⟩
set_option maxRecDepth 100000 in
theorem d_M_draw_75 : Dc m_M_draw 75 (.iload 6) 2 77 := ⟨by decide +kernel, rfl⟩
set_option maxRecDepth 100000 in
theorem d_M_draw_77 : Dc m_M_draw 77 .lshr 1 78 := ⟨by decide +kernel, rfl⟩
set_option maxRecDepth 100000 in
theorem d_M_draw_78 : Dc m_M_draw 78 (.lconst 1) 1 79 := ⟨by decide +kernel, rfl⟩
set_option maxRecDepth 100000 in
theorem d_M_draw_79 : Dc m_M_draw 79 .land 1 80 := ⟨by decide +kernel, rfl⟩
set_option maxRecDepth 100000 in
theorem d_M_draw_80 : Dc m_M_draw 80 (.lconst 0) 1 81 := ⟨by decide +kernel, rfl⟩
set_option maxRecDepth 100000 in
theorem d_M_draw_81 : Dc m_M_draw 81 .lcmp 1 82 := ⟨by decide +kernel, rfl⟩
set_option maxRecDepth 100000 in
theorem d_M_draw_82 : Dj m_M_draw 82 (.ifCond .eq) 85 90 := ⟨8, by decide +kernel, rfl, by decide⟩
set_option maxRecDepth 100000 in
theorem d_M_draw_85 : Dc m_M_draw 85 (.iload 5) 2 87 := ⟨by decide +kernel, rfl⟩
set_option maxRecDepth 100000 in
theorem d_M_draw_87 : Dj m_M_draw 87 (.ifCond .le) 90 108 := ⟨21, by decide +kernel, rfl, by decide⟩
set_option maxRecDepth 100000 in
theorem d_M_draw_90 : Dc m_M_draw 90 (.iload 5) 2 92 := ⟨by decide +kernel, rfl⟩
set_option maxRecDepth 100000 in
theorem d_M_draw_92 : Dc m_M_draw 92 (.lload_n 3) 1 93 := ⟨by decide +kernel, rfl⟩
set_option maxRecDepth 100000 in
theorem d_M_draw_93 : Dc m_M_draw 93 (.iload 6) 2 95 := ⟨by decide +kernel, rfl⟩
set_option maxRecDepth 100000 in
theorem d_M_draw_95 : Dc m_M_draw 95 .lshr 1 96 := ⟨by decide +kernel, rfl⟩
set_option maxRecDepth 100000 in
theorem d_M_draw_96 : Dc m_M_draw 96 (.lconst 1) 1 97 := ⟨by decide +kernel, rfl⟩
set_option maxRecDepth 100000 in
theorem d_M_draw_97 : Dc m_M_draw 97 .land 1 98 := ⟨by decide +kernel, rfl⟩
set_option maxRecDepth 100000 in
theorem d_M_draw_98 : Dc m_M_draw 98 .l2i 1 99 := ⟨by decide +kernel, rfl⟩
set_option maxRecDepth 100000 in
theorem d_M_draw_99 : Dc m_M_draw 99 .isub 1 100 := ⟨by decide +kernel, rfl⟩
set_option maxRecDepth 100000 in
theorem d_M_draw_100 : Dc m_M_draw 100 (.istore 5) 2 102 := ⟨by decide +kernel, rfl⟩
set_option maxRecDepth 100000 in
theorem d_M_draw_102 : Dc m_M_draw 102 (.iinc 6 (1)) 3 105 := ⟨by decide +kernel, rfl⟩
set_option maxRecDepth 100000 in
theorem d_M_draw_105 : Dj m_M_draw 105 .goto 108 74 := ⟨-31, by decide +kernel, rfl, by decide⟩
set_option maxRecDepth 100000 in
theorem d_M_draw_108 : Dc m_M_draw 108 (.iload 6) 2 110 := ⟨by decide +kernel, rfl⟩
set_option maxRecDepth 100000 in
theorem d_M_draw_110 : Dc m_M_draw 110 .ireturn 1 111 := ⟨by decide +kernel, rfl⟩
set_option maxRecDepth 100000 in
theorem d_M_findRows_0 : Dc m_M_findRows 0 (.aload_n 0) 1 1 := ⟨by decide +kernel, rfl⟩
set_option maxRecDepth 100000 in
theorem d_M_findRows_1 : Dc m_M_findRows 1 (.invokevirtual 202) 3 4 := ⟨by decide +kernel, rfl⟩
set_option maxRecDepth 100000 in
theorem d_M_findRows_4 : Dc m_M_findRows 4 (.aload_n 0) 1 5 := ⟨by decide +kernel, rfl⟩
set_option maxRecDepth 100000 in
theorem d_M_findRows_5 : Dc m_M_findRows 5 (.iconst 0) 1 6 := ⟨by decide +kernel, rfl⟩
set_option maxRecDepth 100000 in
theorem d_M_findRows_6 : Dc m_M_findRows 6 (.putfield 295) 3 9 := ⟨by decide +kernel, rfl⟩
set_option maxRecDepth 100000 in
theorem d_M_findRows_9 : Dc m_M_findRows 9 (.iconst 0) 1 10 := ⟨by decide +kernel, rfl⟩
set_option maxRecDepth 100000 in
theorem d_M_findRows_10 : Dc m_M_findRows 10 (.istore_n 2) 1 11 := ⟨by decide +kernel, rfl⟩
set_option maxRecDepth 100000 in
theorem d_M_findRows_11 : Dc m_M_findRows 11 (.iload_n 2) 1 12 := ⟨by decide +kernel, rfl⟩
set_option maxRecDepth 100000 in
theorem d_M_findRows_12 : Dc m_M_findRows 12 (.aload_n 0) 1 13 := ⟨by decide +kernel, rfl⟩
set_option maxRecDepth 100000 in
theorem d_M_findRows_13 : Dc m_M_findRows 13 (.getfield 288) 3 16 := ⟨by decide +kernel, rfl⟩
set_option maxRecDepth 100000 in
theorem d_M_findRows_16 : Dj m_M_findRows 16 (.if_icmp .ge) 19 105 := ⟨89, by decide +kernel, rfl, by decide⟩
set_option maxRecDepth 100000 in
theorem d_M_findRows_19 : Dc m_M_findRows 19 (.aload_n 0) 1 20 := ⟨by decide +kernel, rfl⟩
set_option maxRecDepth 100000 in
theorem d_M_findRows_20 : Dc m_M_findRows 20 (.iload_n 1) 1 21 := ⟨by decide +kernel, rfl⟩
set_option maxRecDepth 100000 in
theorem d_M_findRows_21 : Dc m_M_findRows 21 (.iload_n 2) 1 22 := ⟨by decide +kernel, rfl⟩
set_option maxRecDepth 100000 in
theorem d_M_findRows_22 : Dc m_M_findRows 22 (.invokevirtual 291) 3 25 := ⟨by decide +kernel, rfl⟩
set_option maxRecDepth 100000 in
theorem d_M_findRows_25 : Dc m_M_findRows 25 (.istore_n 3) 1 26 := ⟨by decide +kernel, rfl⟩
set_option maxRecDepth 100000 in
theorem d_M_findRows_26 : Dc m_M_findRows 26 (.aload_n 0) 1 27 := ⟨by decide +kernel, rfl⟩
set_option maxRecDepth 100000 in
theorem d_M_findRows_27 : Dc m_M_findRows 27 (.getfield 32) 3 30 := ⟨by decide +kernel, rfl⟩
set_option maxRecDepth 100000 in
theorem d_M_findRows_30 : Dc m_M_findRows 30 (.iconst 3) 1 31 := ⟨by decide +kernel, rfl⟩
set_option maxRecDepth 100000 in
theorem d_M_findRows_31 : Dc m_M_findRows 31 (.iload_n 2) 1 32 := ⟨by decide +kernel, rfl⟩
set_option maxRecDepth 100000 in
theorem d_M_findRows_32 : Dc m_M_findRows 32 .imul 1 33 := ⟨by decide +kernel, rfl⟩
set_option maxRecDepth 100000 in
theorem d_M_findRows_33 : Dc m_M_findRows 33 .iaload 1 34 := ⟨by decide +kernel, rfl⟩
set_option maxRecDepth 100000 in
theorem d_M_findRows_34 : Dj m_M_findRows 34 (.ifCond .ne) 37 99 := ⟨65, by decide +kernel, rfl, by decide⟩
set_option maxRecDepth 100000 in
theorem d_M_findRows_37 : Dc m_M_findRows 37 (.aload_n 0) 1 38 := ⟨by decide +kernel, rfl⟩
set_option maxRecDepth 100000 in
theorem d_M_findRows_38 : Dc m_M_findRows 38 (.getfield 41) 3 41 := ⟨by decide +kernel, rfl⟩
set_option maxRecDepth 100000 in
theorem d_M_findRows_41 : Dc m_M_findRows 41 (.iconst 3) 1 42 := ⟨by decide +kernel, rfl⟩
set_option maxRecDepth 100000 in
theorem d_M_findRows_42 : Dc m_M_findRows 42 (.aload_n 0) 1 43 := ⟨by decide +kernel, rfl⟩
set_option maxRecDepth 100000 in
theorem d_M_findRows_43 : Dc m_M_findRows 43 (.getfield 295) 3 46 := ⟨by decide +kernel, rfl⟩
set_option maxRecDepth 100000 in
theorem d_M_findRows_46 : Dc m_M_findRows 46 .imul 1 47 := ⟨by decide +kernel, rfl⟩
set_option maxRecDepth 100000 in
theorem d_M_findRows_47 : Dc m_M_findRows 47 (.aload_n 0) 1 48 := ⟨by decide +kernel, rfl⟩
set_option maxRecDepth 100000 in
theorem d_M_findRows_48 : Dc m_M_findRows 48 (.getfield 32) 3 51 := ⟨by decide +kernel, rfl⟩
set_option maxRecDepth 100000 in
theorem d_M_findRows_51 : Dc m_M_findRows 51 (.iconst 3) 1 52 := ⟨by decide +kernel, rfl⟩
set_option maxRecDepth 100000 in
theorem d_M_findRows_52 : Dc m_M_findRows 52 (.iload_n 2) 1 53 := ⟨by decide +kernel, rfl⟩
set_option maxRecDepth 100000 in
theorem d_M_findRows_53 : Dc m_M_findRows 53 .imul 1 54 := ⟨by decide +kernel, rfl⟩
set_option maxRecDepth 100000 in
theorem d_M_findRows_54 : Dc m_M_findRows 54 (.iconst 1) 1 55 := ⟨by decide +kernel, rfl⟩
set_option maxRecDepth 100000 in
theorem d_M_findRows_55 : Dc m_M_findRows 55 .iadd 1 56 := ⟨by decide +kernel, rfl⟩
set_option maxRecDepth 100000 in
theorem d_M_findRows_56 : Dc m_M_findRows 56 .iaload 1 57 := ⟨by decide +kernel, rfl⟩
set_option maxRecDepth 100000 in
theorem d_M_findRows_57 : Dc m_M_findRows 57 .iastore 1 58 := ⟨by decide +kernel, rfl⟩
set_option maxRecDepth 100000 in
theorem d_M_findRows_58 : Dc m_M_findRows 58 (.aload_n 0) 1 59 := ⟨by decide +kernel, rfl⟩
set_option maxRecDepth 100000 in
theorem d_M_findRows_59 : Dc m_M_findRows 59 (.getfield 41) 3 62 := ⟨by decide +kernel, rfl⟩
set_option maxRecDepth 100000 in
theorem d_M_findRows_62 : Dc m_M_findRows 62 (.iconst 3) 1 63 := ⟨by decide +kernel, rfl⟩
set_option maxRecDepth 100000 in
theorem d_M_findRows_63 : Dc m_M_findRows 63 (.aload_n 0) 1 64 := ⟨by decide +kernel, rfl⟩
set_option maxRecDepth 100000 in
theorem d_M_findRows_64 : Dc m_M_findRows 64 (.getfield 295) 3 67 := ⟨by decide +kernel, rfl⟩
set_option maxRecDepth 100000 in
theorem d_M_findRows_67 : Dc m_M_findRows 67 .imul 1 68 := ⟨by decide +kernel, rfl⟩
set_option maxRecDepth 100000 in
theorem d_M_findRows_68 : Dc m_M_findRows 68 (.iconst 1) 1 69 := ⟨by decide +kernel, rfl⟩
set_option maxRecDepth 100000 in
theorem d_M_findRows_69 : Dc m_M_findRows 69 .iadd 1 70 := ⟨by decide +kernel, rfl⟩
set_option maxRecDepth 100000 in
theorem d_M_findRows_70 : Dc m_M_findRows 70 (.iload_n 3) 1 71 := ⟨by decide +kernel, rfl⟩
set_option maxRecDepth 100000 in
theorem d_M_findRows_71 : Dc m_M_findRows 71 .iastore 1 72 := ⟨by decide +kernel, rfl⟩
set_option maxRecDepth 100000 in
theorem d_M_findRows_72 : Dc m_M_findRows 72 (.aload_n 0) 1 73 := ⟨by decide +kernel, rfl⟩
set_option maxRecDepth 100000 in
theorem d_M_findRows_73 : Dc m_M_findRows 73 (.getfield 41) 3 76 := ⟨by decide +kernel, rfl⟩
set_option maxRecDepth 100000 in
theorem d_M_findRows_76 : Dc m_M_findRows 76 (.iconst 3) 1 77 := ⟨by decide +kernel, rfl⟩
set_option maxRecDepth 100000 in
theorem d_M_findRows_77 : Dc m_M_findRows 77 (.aload_n 0) 1 78 := ⟨by decide +kernel, rfl⟩
set_option maxRecDepth 100000 in
theorem d_M_findRows_78 : Dc m_M_findRows 78 (.getfield 295) 3 81 := ⟨by decide +kernel, rfl⟩
set_option maxRecDepth 100000 in
theorem d_M_findRows_81 : Dc m_M_findRows 81 .imul 1 82 := ⟨by decide +kernel, rfl⟩
set_option maxRecDepth 100000 in
theorem d_M_findRows_82 : Dc m_M_findRows 82 (.iconst 2) 1 83 := ⟨by decide +kernel, rfl⟩
set_option maxRecDepth 100000 in
theorem d_M_findRows_83 : Dc m_M_findRows 83 .iadd 1 84 := ⟨by decide +kernel, rfl⟩
set_option maxRecDepth 100000 in
theorem d_M_findRows_84 : Dc m_M_findRows 84 (.aload_n 0) 1 85 := ⟨by decide +kernel, rfl⟩
set_option maxRecDepth 100000 in
theorem d_M_findRows_85 : Dc m_M_findRows 85 (.getfield 164) 3 88 := ⟨by decide +kernel, rfl⟩
set_option maxRecDepth 100000 in
theorem d_M_findRows_88 : Dc m_M_findRows 88 .iastore 1 89 := ⟨by decide +kernel, rfl⟩
set_option maxRecDepth 100000 in
theorem d_M_findRows_89 : Dc m_M_findRows 89 (.aload_n 0) 1 90 := ⟨by decide +kernel, rfl⟩
set_option maxRecDepth 100000 in
theorem d_M_findRows_90 : Dc m_M_findRows 90 .dup 1 91 := ⟨by decide +kernel, rfl⟩
set_option maxRecDepth 100000 in
theorem d_M_findRows_91 : Dc m_M_findRows 91 (.getfield 295) 3 94 := ⟨by decide +kernel, rfl⟩
set_option maxRecDepth 100000 in
theorem d_M_findRows_94 : Dc m_M_findRows 94 (.iconst 1) 1 95 := ⟨by decide +kernel, rfl⟩
set_option maxRecDepth 100000 in
theorem d_M_findRows_95 : Dc m_M_findRows 95 .iadd 1 96 := ⟨by decide +kernel, rfl⟩
set_option maxRecDepth 100000 in
theorem d_M_findRows_96 : Dc m_M_findRows 96 (.putfield 295) 3 99 := ⟨by decide +kernel, rfl⟩
set_option maxRecDepth 100000 in
theorem d_M_findRows_99 : Dc m_M_findRows 99 (.iinc 2 (1)) 3 102 := ⟨by decide +kernel, rfl⟩
set_option maxRecDepth 100000 in
theorem d_M_findRows_102 : Dj m_M_findRows 102 .goto 105 11 := ⟨-91, by decide +kernel, rfl, by decide⟩
set_option maxRecDepth 100000 in
theorem d_M_findRows_105 : Dc m_M_findRows 105 (.aload_n 0) 1 106 := ⟨by decide +kernel, rfl⟩
set_option maxRecDepth 100000 in
theorem d_M_findRows_106 : Dc m_M_findRows 106 (.iconst 0) 1 107 := ⟨by decide +kernel, rfl⟩
set_option maxRecDepth 100000 in
theorem d_M_findRows_107 : Dc m_M_findRows 107 (.putfield 106) 3 110 := ⟨by decide +kernel, rfl⟩
set_option maxRecDepth 100000 in
theorem d_M_findRows_110 : Dc m_M_findRows 110 .return_ 1 111 := ⟨by decide +kernel, rfl⟩
set_option maxRecDepth 100000 in
theorem d_M_prove_0 : Dc m_M_prove 0 (.aload_n 0) 1 1 := ⟨by decide +kernel, rfl⟩
set_option maxRecDepth 100000 in
theorem d_M_prove_1 : Dc m_M_prove 1 (.iload_n 1) 1 2 := ⟨by decide +kernel, rfl⟩
set_option maxRecDepth 100000 in
theorem d_M_prove_2 : Dc m_M_prove 2 (.invokevirtual 115) 3 5 := ⟨by decide +kernel, rfl⟩
set_option maxRecDepth 100000 in
theorem d_M_prove_5 : Dj m_M_prove 5 (.ifCond .ne) 8 10 := ⟨5, by decide +kernel, rfl, by decide⟩
set_option maxRecDepth 100000 in
theorem d_M_prove_8 : Dc m_M_prove 8 (.iconst (-1)) 1 9 := ⟨by decide +kernel, rfl⟩
set_option maxRecDepth 100000 in
theorem d_M_prove_9 : Dc m_M_prove 9 .ireturn 1 10 := ⟨by decide +kernel, rfl⟩
set_option maxRecDepth 100000 in
theorem d_M_prove_10 : Dc m_M_prove 10 (.aload_n 0) 1 11 := ⟨by decide +kernel, rfl⟩
set_option maxRecDepth 100000 in
theorem d_M_prove_11 : Dc m_M_prove 11 (.iload_n 1) 1 12 := ⟨by decide +kernel, rfl⟩
set_option maxRecDepth 100000 in
theorem d_M_prove_12 : Dc m_M_prove 12 (.invokevirtual 298) 3 15 := ⟨by decide +kernel, rfl⟩
set_option maxRecDepth 100000 in
theorem d_M_prove_15 : Dc m_M_prove 15 (.aload_n 0) 1 16 := ⟨by decide +kernel, rfl⟩
set_option maxRecDepth 100000 in
theorem d_M_prove_16 : Dc m_M_prove 16 (.aload_n 0) 1 17 := ⟨by decide +kernel, rfl⟩
set_option maxRecDepth 100000 in
theorem d_M_prove_17 : Dc m_M_prove 17 (.getfield 295) 3 20 := ⟨by decide +kernel, rfl⟩
set_option maxRecDepth 100000 in
theorem d_M_prove_20 : Dc m_M_prove 20 (.putfield 301) 3 23 := ⟨by decide +kernel, rfl⟩
set_option maxRecDepth 100000 in
theorem d_M_prove_23 : Dc m_M_prove 23 (.iconst 0) 1 24 := ⟨by decide +kernel, rfl⟩
set_option maxRecDepth 100000 in
theorem d_M_prove_24 : Dc m_M_prove 24 (.istore_n 2) 1 25 := ⟨by decide +kernel, rfl⟩
set_option maxRecDepth 100000 in
theorem d_M_prove_25 : Dc m_M_prove 25 (.iload_n 2) 1 26 := ⟨by decide +kernel, rfl⟩
set_option maxRecDepth 100000 in
theorem d_M_prove_26 : Dc m_M_prove 26 (.iconst 3) 1 27 := ⟨by decide +kernel, rfl⟩
set_option maxRecDepth 100000 in
theorem d_M_prove_27 : Dc m_M_prove 27 (.aload_n 0) 1 28 := ⟨by decide +kernel, rfl⟩
set_option maxRecDepth 100000 in
theorem d_M_prove_28 : Dc m_M_prove 28 (.getfield 301) 3 31 := ⟨by decide +kernel, rfl⟩
set_option maxRecDepth 100000 in
theorem d_M_prove_31 : Dc m_M_prove 31 .imul 1 32 := ⟨by decide +kernel, rfl⟩
set_option maxRecDepth 100000 in
theorem d_M_prove_32 : Dj m_M_prove 32 (.if_icmp .ge) 35 53 := ⟨21, by decide +kernel, rfl, by decide⟩
set_option maxRecDepth 100000 in
theorem d_M_prove_35 : Dc m_M_prove 35 (.aload_n 0) 1 36 := ⟨by decide +kernel, rfl⟩
set_option maxRecDepth 100000 in
theorem d_M_prove_36 : Dc m_M_prove 36 (.getfield 38) 3 39 := ⟨by decide +kernel, rfl⟩
set_option maxRecDepth 100000 in
theorem d_M_prove_39 : Dc m_M_prove 39 (.iload_n 2) 1 40 := ⟨by decide +kernel, rfl⟩
set_option maxRecDepth 100000 in
theorem d_M_prove_40 : Dc m_M_prove 40 (.aload_n 0) 1 41 := ⟨by decide +kernel, rfl⟩
set_option maxRecDepth 100000 in
theorem d_M_prove_41 : Dc m_M_prove 41 (.getfield 41) 3 44 := ⟨by decide +kernel, rfl⟩
set_option maxRecDepth 100000 in
theorem d_M_prove_44 : Dc m_M_prove 44 (.iload_n 2) 1 45 := ⟨by decide +kernel, rfl⟩
set_option maxRecDepth 100000 in
theorem d_M_prove_45 : Dc m_M_prove 45 .iaload 1 46 := ⟨by decide +kernel, rfl⟩
set_option maxRecDepth 100000 in
theorem d_M_prove_46 : Dc m_M_prove 46 .iastore 1 47 := ⟨by decide +kernel, rfl⟩
set_option maxRecDepth 100000 in
theorem d_M_prove_47 : Dc m_M_prove 47 (.iinc 2 (1)) 3 50 := ⟨by decide +kernel, rfl⟩
set_option maxRecDepth 100000 in
theorem d_M_prove_50 : Dj m_M_prove 50 .goto 53 25 := ⟨-25, by decide +kernel, rfl, by decide⟩
set_option maxRecDepth 100000 in
theorem d_M_prove_53 : Dc m_M_prove 53 (.aload_n 0) 1 54 := ⟨by decide +kernel, rfl⟩
set_option maxRecDepth 100000 in
theorem d_M_prove_54 : Dc m_M_prove 54 (.getfield 301) 3 57 := ⟨by decide +kernel, rfl⟩
set_option maxRecDepth 100000 in
theorem d_M_prove_57 : Dc m_M_prove 57 .ireturn 1 58 := ⟨by decide +kernel, rfl⟩
set_option maxRecDepth 100000 in
theorem d_M_isRow_0 : Dc m_M_isRow 0 (.iload_n 1) 1 1 := ⟨by decide +kernel, rfl⟩
set_option maxRecDepth 100000 in
theorem d_M_isRow_1 : Dc m_M_isRow 1 (.iconst 0) 1 2 := ⟨by decide +kernel, rfl⟩
set_option maxRecDepth 100000 in
theorem d_M_isRow_2 : Dc m_M_isRow 2 (.aload_n 0) 1 3 := ⟨by decide +kernel, rfl⟩
set_option maxRecDepth 100000 in
theorem d_M_isRow_3 : Dc m_M_isRow 3 (.getfield 301) 3 6 := ⟨by decide +kernel, rfl⟩
set_option maxRecDepth 100000 in
theorem d_M_isRow_6 : Dc m_M_isRow 6 (.iconst 1) 1 7 := ⟨by decide +kernel, rfl⟩
set_option maxRecDepth 100000 in
theorem d_M_isRow_7 : Dc m_M_isRow 7 .isub 1 8 := ⟨by decide +kernel, rfl⟩
set_option maxRecDepth 100000 in
theorem d_M_isRow_8 : Dc m_M_isRow 8 (.invokestatic 72) 3 11 := ⟨by decide +kernel, rfl⟩
set_option maxRecDepth 100000 in
theorem d_M_isRow_11 : Dj m_M_isRow 11 (.ifCond .eq) 14 27 := ⟨16, by decide +kernel, rfl, by decide⟩
set_option maxRecDepth 100000 in
theorem d_M_isRow_14 : Dc m_M_isRow 14 (.iload_n 2) 1 15 := ⟨by decide +kernel, rfl⟩
set_option maxRecDepth 100000 in
theorem d_M_isRow_15 : Dc m_M_isRow 15 (.iconst 0) 1 16 := ⟨by decide +kernel, rfl⟩
set_option maxRecDepth 100000 in
theorem d_M_isRow_16 : Dc m_M_isRow 16 (.iconst 2) 1 17 := ⟨by decide +kernel, rfl⟩
set_option maxRecDepth 100000 in
theorem d_M_isRow_17 : Dc m_M_isRow 17 (.invokestatic 72) 3 20 := ⟨by decide +kernel, rfl⟩
set_option maxRecDepth 100000 in
theorem d_M_isRow_20 : Dj m_M_isRow 20 (.ifCond .eq) 23 27 := ⟨7, by decide +kernel, rfl, by decide⟩
set_option maxRecDepth 100000 in
theorem d_M_isRow_23 : Dc m_M_isRow 23 (.iconst 1) 1 24 := ⟨by decide +kernel, rfl⟩
set_option maxRecDepth 100000 in
theorem d_M_isRow_24 : Dj m_M_isRow 24 .goto 27 28 := ⟨4, by decide +kernel, rfl, by decide⟩
set_option maxRecDepth 100000 in
theorem d_M_isRow_27 : Dc m_M_isRow 27 (.iconst 0) 1 28 := ⟨by decide +kernel, rfl⟩
set_option maxRecDepth 100000 in
theorem d_M_isRow_28 : Dc m_M_isRow 28 .ireturn 1 29 := ⟨by decide +kernel, rfl⟩
set_option maxRecDepth 100000 in
theorem d_M_row_0 : Dc m_M_row 0 (.aload_n 0) 1 1 := ⟨by decide +kernel, rfl⟩
set_option maxRecDepth 100000 in
theorem d_M_row_1 : Dc m_M_row 1 (.iload_n 1) 1 2 := ⟨by decide +kernel, rfl⟩
set_option maxRecDepth 100000 in
theorem d_M_row_2 : Dc m_M_row 2 (.iload_n 2) 1 3 := ⟨by decide +kernel, rfl⟩
set_option maxRecDepth 100000 in
theorem d_M_row_3 : Dc m_M_row 3 (.invokevirtual 304) 3 6 := ⟨by decide +kernel, rfl⟩
set_option maxRecDepth 100000 in
theorem d_M_row_6 : Dj m_M_row 6 (.ifCond .eq) 9 22 := ⟨16, by decide +kernel, rfl, by decide⟩
set_option maxRecDepth 100000 in
theorem d_M_row_9 : Dc m_M_row 9 (.aload_n 0) 1 10 := ⟨by decide +kernel, rfl⟩
set_option maxRecDepth 100000 in
theorem d_M_row_10 : Dc m_M_row 10 (.getfield 38) 3 13 := ⟨by decide +kernel, rfl⟩
set_option maxRecDepth 100000 in
theorem d_M_row_13 : Dc m_M_row 13 (.iconst 3) 1 14 := ⟨by decide +kernel, rfl⟩
set_option maxRecDepth 100000 in
theorem d_M_row_14 : Dc m_M_row 14 (.iload_n 1) 1 15 := ⟨by decide +kernel, rfl⟩
set_option maxRecDepth 100000 in
theorem d_M_row_15 : Dc m_M_row 15 .imul 1 16 := ⟨by decide +kernel, rfl⟩
set_option maxRecDepth 100000 in
theorem d_M_row_16 : Dc m_M_row 16 (.iload_n 2) 1 17 := ⟨by decide +kernel, rfl⟩
set_option maxRecDepth 100000 in
theorem d_M_row_17 : Dc m_M_row 17 .iadd 1 18 := ⟨by decide +kernel, rfl⟩
set_option maxRecDepth 100000 in
theorem d_M_row_18 : Dc m_M_row 18 .iaload 1 19 := ⟨by decide +kernel, rfl⟩
set_option maxRecDepth 100000 in
theorem d_M_row_19 : Dj m_M_row 19 .goto 22 24 := ⟨5, by decide +kernel, rfl, by decide⟩
set_option maxRecDepth 100000 in
theorem d_M_row_22 : Dc m_M_row 22 (.bipush (-99)) 2 24 := ⟨by decide +kernel, rfl⟩
set_option maxRecDepth 100000 in
theorem d_M_row_24 : Dc m_M_row 24 .ireturn 1 25 := ⟨by decide +kernel, rfl⟩
set_option maxRecDepth 100000 in
theorem d_M_alterRow_0 : Dc m_M_alterRow 0 (.aload_n 0) 1 1 := ⟨by decide +kernel, rfl⟩
set_option maxRecDepth 100000 in
theorem d_M_alterRow_1 : Dc m_M_alterRow 1 (.iload_n 1) 1 2 := ⟨by decide +kernel, rfl⟩
set_option maxRecDepth 100000 in
theorem d_M_alterRow_2 : Dc m_M_alterRow 2 (.iload_n 2) 1 3 := ⟨by decide +kernel, rfl⟩
set_option maxRecDepth 100000 in
theorem d_M_alterRow_3 : Dc m_M_alterRow 3 (.invokevirtual 304) 3 6 := ⟨by decide +kernel, rfl⟩
set_option maxRecDepth 100000 in
theorem d_M_alterRow_6 : Dj m_M_alterRow 6 (.ifCond .ne) 9 12 := ⟨6, by decide +kernel, rfl, by decide⟩
set_option maxRecDepth 100000 in
theorem d_M_alterRow_9 : Dc m_M_alterRow 9 (.bipush (-99)) 2 11 := ⟨by decide +kernel, rfl⟩
set_option maxRecDepth 100000 in
theorem d_M_alterRow_11 : Dc m_M_alterRow 11 .ireturn 1 12 := ⟨by decide +kernel, rfl⟩
set_option maxRecDepth 100000 in
theorem d_M_alterRow_12 : Dc m_M_alterRow 12 (.aload_n 0) 1 13 := ⟨by decide +kernel, rfl⟩
set_option maxRecDepth 100000 in
theorem d_M_alterRow_13 : Dc m_M_alterRow 13 (.getfield 38) 3 16 := ⟨by decide +kernel, rfl⟩
set_option maxRecDepth 100000 in
theorem d_M_alterRow_16 : Dc m_M_alterRow 16 (.iconst 3) 1 17 := ⟨by decide +kernel, rfl⟩
set_option maxRecDepth 100000 in
theorem d_M_alterRow_17 : Dc m_M_alterRow 17 (.iload_n 1) 1 18 := ⟨by decide +kernel, rfl⟩
set_option maxRecDepth 100000 in
theorem d_M_alterRow_18 : Dc m_M_alterRow 18 .imul 1 19 := ⟨by decide +kernel, rfl⟩
set_option maxRecDepth 100000 in
theorem d_M_alterRow_19 : Dc m_M_alterRow 19 (.iload_n 2) 1 20 := ⟨by decide +kernel, rfl⟩
set_option maxRecDepth 100000 in
theorem d_M_alterRow_20 : Dc m_M_alterRow 20 .iadd 1 21 := ⟨by decide +kernel, rfl⟩
set_option maxRecDepth 100000 in
theorem d_M_alterRow_21 : Dc m_M_alterRow 21 .iaload 1 22 := ⟨by decide +kernel, rfl⟩
set_option maxRecDepth 100000 in
theorem d_M_alterRow_22 : Dc m_M_alterRow 22 (.istore 4) 2 24 := ⟨by decide +kernel, rfl⟩
set_option maxRecDepth 100000 in
theorem d_M_alterRow_24 : Dc m_M_alterRow 24 (.aload_n 0) 1 25 := ⟨by decide +kernel, rfl⟩
set_option maxRecDepth 100000 in
theorem d_M_alterRow_25 : Dc m_M_alterRow 25 (.getfield 38) 3 28 := ⟨by decide +kernel, rfl⟩
set_option maxRecDepth 100000 in
theorem d_M_alterRow_28 : Dc m_M_alterRow 28 (.iconst 3) 1 29 := ⟨by decide +kernel, rfl⟩
set_option maxRecDepth 100000 in
theorem d_M_alterRow_29 : Dc m_M_alterRow 29 (.iload_n 1) 1 30 := ⟨by decide +kernel, rfl⟩
set_option maxRecDepth 100000 in
theorem d_M_alterRow_30 : Dc m_M_alterRow 30 .imul 1 31 := ⟨by decide +kernel, rfl⟩
set_option maxRecDepth 100000 in
theorem d_M_alterRow_31 : Dc m_M_alterRow 31 (.iload_n 2) 1 32 := ⟨by decide +kernel, rfl⟩
set_option maxRecDepth 100000 in
theorem d_M_alterRow_32 : Dc m_M_alterRow 32 .iadd 1 33 := ⟨by decide +kernel, rfl⟩
set_option maxRecDepth 100000 in
theorem d_M_alterRow_33 : Dc m_M_alterRow 33 (.iload_n 3) 1 34 := ⟨by decide +kernel, rfl⟩
set_option maxRecDepth 100000 in
theorem d_M_alterRow_34 : Dc m_M_alterRow 34 .iastore 1 35 := ⟨by decide +kernel, rfl⟩
set_option maxRecDepth 100000 in
theorem d_M_alterRow_35 : Dc m_M_alterRow 35 (.iload 4) 2 37 := ⟨by decide +kernel, rfl⟩
set_option maxRecDepth 100000 in
theorem d_M_alterRow_37 : Dc m_M_alterRow 37 .ireturn 1 38 := ⟨by decide +kernel, rfl⟩
set_option maxRecDepth 100000 in
theorem d_M_judge_0 : Dc m_M_judge 0 (.aload_n 0) 1 1 := ⟨by decide +kernel, rfl⟩
set_option maxRecDepth 100000 in
theorem d_M_judge_1 : Dc m_M_judge 1 (.iload_n 1) 1 2 := ⟨by decide +kernel, rfl⟩
set_option maxRecDepth 100000 in
theorem d_M_judge_2 : Dc m_M_judge 2 (.invokevirtual 115) 3 5 := ⟨by decide +kernel, rfl⟩
set_option maxRecDepth 100000 in
theorem d_M_judge_5 : Dj m_M_judge 5 (.ifCond .ne) 8 10 := ⟨5, by decide +kernel, rfl, by decide⟩
set_option maxRecDepth 100000 in
theorem d_M_judge_8 : Dc m_M_judge 8 (.iconst (-1)) 1 9 := ⟨by decide +kernel, rfl⟩
set_option maxRecDepth 100000 in
theorem d_M_judge_9 : Dc m_M_judge 9 .ireturn 1 10 := ⟨by decide +kernel, rfl⟩
set_option maxRecDepth 100000 in
theorem d_M_judge_10 : Dc m_M_judge 10 (.aload_n 0) 1 11 := ⟨by decide +kernel, rfl⟩
set_option maxRecDepth 100000 in
theorem d_M_judge_11 : Dc m_M_judge 11 (.iload_n 1) 1 12 := ⟨by decide +kernel, rfl⟩
set_option maxRecDepth 100000 in
theorem d_M_judge_12 : Dc m_M_judge 12 (.invokevirtual 298) 3 15 := ⟨by decide +kernel, rfl⟩
set_option maxRecDepth 100000 in
theorem d_M_judge_15 : Dc m_M_judge 15 (.iconst 0) 1 16 := ⟨by decide +kernel, rfl⟩
set_option maxRecDepth 100000 in
theorem d_M_judge_16 : Dc m_M_judge 16 (.istore_n 2) 1 17 := ⟨by decide +kernel, rfl⟩
set_option maxRecDepth 100000 in
theorem d_M_judge_17 : Dc m_M_judge 17 (.iload_n 2) 1 18 := ⟨by decide +kernel, rfl⟩
set_option maxRecDepth 100000 in
theorem d_M_judge_18 : Dc m_M_judge 18 (.aload_n 0) 1 19 := ⟨by decide +kernel, rfl⟩
set_option maxRecDepth 100000 in
theorem d_M_judge_19 : Dc m_M_judge 19 (.getfield 301) 3 22 := ⟨by decide +kernel, rfl⟩
set_option maxRecDepth 100000 in
theorem d_M_judge_22 : Dj m_M_judge 22 (.if_icmp .ge) 25 103 := ⟨81, by decide +kernel, rfl, by decide⟩
set_option maxRecDepth 100000 in
theorem d_M_judge_25 : Dc m_M_judge 25 (.iload_n 2) 1 26 := ⟨by decide +kernel, rfl⟩
set_option maxRecDepth 100000 in
theorem d_M_judge_26 : Dc m_M_judge 26 (.aload_n 0) 1 27 := ⟨by decide +kernel, rfl⟩
set_option maxRecDepth 100000 in
theorem d_M_judge_27 : Dc m_M_judge 27 (.getfield 295) 3 30 := ⟨by decide +kernel, rfl⟩
set_option maxRecDepth 100000 in
theorem d_M_judge_30 : Dj m_M_judge 30 (.if_icmp .ge) 33 37 := ⟨7, by decide +kernel, rfl, by decide⟩
set_option maxRecDepth 100000 in
theorem d_M_judge_33 : Dc m_M_judge 33 (.iconst 1) 1 34 := ⟨by decide +kernel, rfl⟩
set_option maxRecDepth 100000 in
theorem d_M_judge_34 : Dj m_M_judge 34 .goto 37 38 := ⟨4, by decide +kernel, rfl, by decide⟩
set_option maxRecDepth 100000 in
theorem d_M_judge_37 : Dc m_M_judge 37 (.iconst 0) 1 38 := ⟨by decide +kernel, rfl⟩
set_option maxRecDepth 100000 in
theorem d_M_judge_38 : Dc m_M_judge 38 (.istore_n 3) 1 39 := ⟨by decide +kernel, rfl⟩
set_option maxRecDepth 100000 in
theorem d_M_judge_39 : Dc m_M_judge 39 (.iconst 0) 1 40 := ⟨by decide +kernel, rfl⟩
set_option maxRecDepth 100000 in
theorem d_M_judge_40 : Dc m_M_judge 40 (.istore 4) 2 42 := ⟨by decide +kernel, rfl⟩
set_option maxRecDepth 100000 in
theorem d_M_judge_42 : Dc m_M_judge 42 (.iload 4) 2 44 := ⟨by decide +kernel, rfl⟩
set_option maxRecDepth 100000 in
theorem d_M_judge_44 : Dc m_M_judge 44 (.iconst 3) 1 45 := ⟨by decide +kernel, rfl⟩
set_option maxRecDepth 100000 in
theorem d_M_judge_45 : Dj m_M_judge 45 (.if_icmp .ge) 48 89 := ⟨44, by decide +kernel, rfl, by decide⟩
set_option maxRecDepth 100000 in
theorem d_M_judge_48 : Dc m_M_judge 48 (.iload_n 3) 1 49 := ⟨by decide +kernel, rfl⟩
set_option maxRecDepth 100000 in
theorem d_M_judge_49 : Dj m_M_judge 49 (.ifCond .eq) 52 89 := ⟨40, by decide +kernel, rfl, by decide⟩
set_option maxRecDepth 100000 in
theorem d_M_judge_52 : Dc m_M_judge 52 (.aload_n 0) 1 53 := ⟨by decide +kernel, rfl⟩
set_option maxRecDepth 100000 in
theorem d_M_judge_53 : Dc m_M_judge 53 (.getfield 38) 3 56 := ⟨by decide +kernel, rfl⟩
set_option maxRecDepth 100000 in
theorem d_M_judge_56 : Dc m_M_judge 56 (.iconst 3) 1 57 := ⟨by decide +kernel, rfl⟩
set_option maxRecDepth 100000 in
theorem d_M_judge_57 : Dc m_M_judge 57 (.iload_n 2) 1 58 := ⟨by decide +kernel, rfl⟩
set_option maxRecDepth 100000 in
theorem d_M_judge_58 : Dc m_M_judge 58 .imul 1 59 := ⟨by decide +kernel, rfl⟩
set_option maxRecDepth 100000 in
theorem d_M_judge_59 : Dc m_M_judge 59 (.iload 4) 2 61 := ⟨by decide +kernel, rfl⟩
set_option maxRecDepth 100000 in
theorem d_M_judge_61 : Dc m_M_judge 61 .iadd 1 62 := ⟨by decide +kernel, rfl⟩
set_option maxRecDepth 100000 in
theorem d_M_judge_62 : Dc m_M_judge 62 .iaload 1 63 := ⟨by decide +kernel, rfl⟩
set_option maxRecDepth 100000 in
theorem d_M_judge_63 : Dc m_M_judge 63 (.aload_n 0) 1 64 := ⟨by decide +kernel, rfl⟩
set_option maxRecDepth 100000 in
theorem d_M_judge_64 : Dc m_M_judge 64 (.getfield 41) 3 67 := ⟨by decide +kernel, rfl⟩
set_option maxRecDepth 100000 in
theorem d_M_judge_67 : Dc m_M_judge 67 (.iconst 3) 1 68 := ⟨by decide +kernel, rfl⟩
set_option maxRecDepth 100000 in
theorem d_M_judge_68 : Dc m_M_judge 68 (.iload_n 2) 1 69 := ⟨by decide +kernel, rfl⟩
set_option maxRecDepth 100000 in
theorem d_M_judge_69 : Dc m_M_judge 69 .imul 1 70 := ⟨by decide +kernel, rfl⟩
set_option maxRecDepth 100000 in
theorem d_M_judge_70 : Dc m_M_judge 70 (.iload 4) 2 72 := ⟨by decide +kernel, rfl⟩
set_option maxRecDepth 100000 in
theorem d_M_judge_72 : Dc m_M_judge 72 .iadd 1 73 := ⟨by decide +kernel, rfl⟩
set_option maxRecDepth 100000 in
theorem d_M_judge_73 : Dc m_M_judge 73 .iaload 1 74 := ⟨by decide +kernel, rfl⟩
set_option maxRecDepth 100000 in
theorem d_M_judge_74 : Dj m_M_judge 74 (.if_icmp .ne) 77 81 := ⟨7, by decide +kernel, rfl, by decide⟩
set_option maxRecDepth 100000 in
theorem d_M_judge_77 : Dc m_M_judge 77 (.iconst 1) 1 78 := ⟨by decide +kernel, rfl⟩
set_option maxRecDepth 100000 in
theorem d_M_judge_78 : Dj m_M_judge 78 .goto 81 82 := ⟨4, by decide +kernel, rfl, by decide⟩
set_option maxRecDepth 100000 in
theorem d_M_judge_81 : Dc m_M_judge 81 (.iconst 0) 1 82 := ⟨by decide +kernel, rfl⟩
set_option maxRecDepth 100000 in
theorem d_M_judge_82 : Dc m_M_judge 82 (.istore_n 3) 1 83 := ⟨by decide +kernel, rfl⟩
set_option maxRecDepth 100000 in
theorem d_M_judge_83 : Dc m_M_judge 83 (.iinc 4 (1)) 3 86 := ⟨by decide +kernel, rfl⟩
set_option maxRecDepth 100000 in
theorem d_M_judge_86 : Dj m_M_judge 86 .goto 89 42 := ⟨-44, by decide +kernel, rfl, by decide⟩
set_option maxRecDepth 100000 in
theorem d_M_judge_89 : Dc m_M_judge 89 (.iload_n 3) 1 90 := ⟨by decide +kernel, rfl⟩
set_option maxRecDepth 100000 in
theorem d_M_judge_90 : Dj m_M_judge 90 (.ifCond .ne) 93 97 := ⟨7, by decide +kernel, rfl, by decide⟩
set_option maxRecDepth 100000 in
theorem d_M_judge_93 : Dc m_M_judge 93 (.iload_n 2) 1 94 := ⟨by decide +kernel, rfl⟩
set_option maxRecDepth 100000 in
theorem d_M_judge_94 : Dc m_M_judge 94 (.iconst 1) 1 95 := ⟨by decide +kernel, rfl⟩
set_option maxRecDepth 100000 in
theorem d_M_judge_95 : Dc m_M_judge 95 .iadd 1 96 := ⟨by decide +kernel, rfl⟩
set_option maxRecDepth 100000 in
theorem d_M_judge_96 : Dc m_M_judge 96 .ireturn 1 97 := ⟨by decide +kernel, rfl⟩
set_option maxRecDepth 100000 in
theorem d_M_judge_97 : Dc m_M_judge 97 (.iinc 2 (1)) 3 100 := ⟨by decide +kernel, rfl⟩
set_option maxRecDepth 100000 in
theorem d_M_judge_100 : Dj m_M_judge 100 .goto 103 17 := ⟨-83, by decide +kernel, rfl, by decide⟩
set_option maxRecDepth 100000 in
theorem d_M_judge_103 : Dc m_M_judge 103 (.aload_n 0) 1 104 := ⟨by decide +kernel, rfl⟩
set_option maxRecDepth 100000 in
theorem d_M_judge_104 : Dc m_M_judge 104 (.getfield 301) 3 107 := ⟨by decide +kernel, rfl⟩
set_option maxRecDepth 100000 in
theorem d_M_judge_107 : Dc m_M_judge 107 (.aload_n 0) 1 108 := ⟨by decide +kernel, rfl⟩
set_option maxRecDepth 100000 in
theorem d_M_judge_108 : Dc m_M_judge 108 (.getfield 295) 3 111 := ⟨by decide +kernel, rfl⟩
set_option maxRecDepth 100000 in
theorem d_M_judge_111 : Dj m_M_judge 111 (.if_icmp .ge) 114 120 := ⟨9, by decide +kernel, rfl, by decide⟩
set_option maxRecDepth 100000 in
theorem d_M_judge_114 : Dc m_M_judge 114 (.sipush (222)) 3 117 := ⟨by decide +kernel, rfl⟩
set_option maxRecDepth 100000 in
theorem d_M_judge_117 : Dj m_M_judge 117 .goto 120 121 := ⟨4, by decide +kernel, rfl, by decide⟩
set_option maxRecDepth 100000 in
theorem d_M_judge_120 : Dc m_M_judge 120 (.iconst 0) 1 121 := ⟨by decide +kernel, rfl⟩
set_option maxRecDepth 100000 in
theorem d_M_judge_121 : Dc m_M_judge 121 .ireturn 1 122 := ⟨by decide +kernel, rfl⟩
set_option maxRecDepth 100000 in
theorem d_M_firms_0 : Dc m_M_firms 0 (.iload_n 1) 1 1 := ⟨by decide +kernel, rfl⟩
set_option maxRecDepth 100000 in
theorem d_M_firms_1 : Dc m_M_firms 1 (.invokestatic 308) 3 4 := ⟨by decide +kernel, rfl⟩
set_option maxRecDepth 100000 in
theorem d_M_firms_4 : Dj m_M_firms 4 (.ifCond .eq) 7 44 := ⟨40, by decide +kernel, rfl, by decide⟩
set_option maxRecDepth 100000 in
theorem d_M_firms_7 : Dc m_M_firms 7 (.aload_n 0) 1 8 := ⟨by decide +kernel, rfl⟩
set_option maxRecDepth 100000 in
theorem d_M_firms_8 : Dc m_M_firms 8 (.iload_n 3) 1 9 := ⟨by decide +kernel, rfl⟩
set_option maxRecDepth 100000 in
theorem d_M_firms_9 : Dc m_M_firms 9 (.invokevirtual 115) 3 12 := ⟨by decide +kernel, rfl⟩
set_option maxRecDepth 100000 in
theorem d_M_firms_12 : Dj m_M_firms 12 (.ifCond .eq) 15 44 := ⟨32, by decide +kernel, rfl, by decide⟩
set_option maxRecDepth 100000 in
theorem d_M_firms_15 : Dc m_M_firms 15 (.iload 4) 2 17 := ⟨by decide +kernel, rfl⟩
set_option maxRecDepth 100000 in
theorem d_M_firms_17 : Dc m_M_firms 17 (.invokestatic 91) 3 20 := ⟨by decide +kernel, rfl⟩
set_option maxRecDepth 100000 in
theorem d_M_firms_20 : Dj m_M_firms 20 (.ifCond .eq) 23 44 := ⟨24, by decide +kernel, rfl, by decide⟩
set_option maxRecDepth 100000 in
theorem d_M_firms_23 : Dc m_M_firms 23 (.iload 5) 2 25 := ⟨by decide +kernel, rfl⟩
set_option maxRecDepth 100000 in
theorem d_M_firms_25 : Dc m_M_firms 25 (.iconst 0) 1 26 := ⟨by decide +kernel, rfl⟩
set_option maxRecDepth 100000 in
theorem d_M_firms_26 : Dc m_M_firms 26 (.bipush (36)) 2 28 := ⟨by decide +kernel, rfl⟩
set_option maxRecDepth 100000 in
theorem d_M_firms_28 : Dc m_M_firms 28 (.invokestatic 72) 3 31 := ⟨by decide +kernel, rfl⟩
set_option maxRecDepth 100000 in
theorem d_M_firms_31 : Dj m_M_firms 31 (.ifCond .eq) 34 44 := ⟨13, by decide +kernel, rfl, by decide⟩
set_option maxRecDepth 100000 in
theorem d_M_firms_34 : Dc m_M_firms 34 (.iload 4) 2 36 := ⟨by decide +kernel, rfl⟩
set_option maxRecDepth 100000 in
theorem d_M_firms_36 : Dc m_M_firms 36 (.iload 5) 2 38 := ⟨by decide +kernel, rfl⟩
set_option maxRecDepth 100000 in
theorem d_M_firms_38 : Dc m_M_firms 38 .iadd 1 39 := ⟨by decide +kernel, rfl⟩
set_option maxRecDepth 100000 in
theorem d_M_firms_39 : Dc m_M_firms 39 (.bipush (36)) 2 41 := ⟨by decide +kernel, rfl⟩
set_option maxRecDepth 100000 in
theorem d_M_firms_41 : Dj m_M_firms 41 (.if_icmp .le) 44 46 := ⟨5, by decide +kernel, rfl, by decide⟩
set_option maxRecDepth 100000 in
theorem d_M_firms_44 : Dc m_M_firms 44 (.iconst (-1)) 1 45 := ⟨by decide +kernel, rfl⟩
set_option maxRecDepth 100000 in
theorem d_M_firms_45 : Dc m_M_firms 45 .ireturn 1 46 := ⟨by decide +kernel, rfl⟩
set_option maxRecDepth 100000 in
theorem d_M_firms_46 : Dc m_M_firms 46 (.aload_n 0) 1 47 := ⟨by decide +kernel, rfl⟩
set_option maxRecDepth 100000 in
theorem d_M_firms_47 : Dc m_M_firms 47 (.iload_n 1) 1 48 := ⟨by decide +kernel, rfl⟩
set_option maxRecDepth 100000 in
theorem d_M_firms_48 : Dc m_M_firms 48 (.iconst 0) 1 49 := ⟨by decide +kernel, rfl⟩
set_option maxRecDepth 100000 in
theorem d_M_firms_49 : Dc m_M_firms 49 (.invokevirtual 311) 3 52 := ⟨by decide +kernel, rfl⟩
set_option maxRecDepth 100000 in
theorem d_M_firms_52 : Dc m_M_firms 52 (.istore 6) 2 54 := ⟨by decide +kernel, rfl⟩
set_option maxRecDepth 100000 in
theorem d_M_firms_54 : Dc m_M_firms 54 (.iload 6) 2 56 := ⟨by decide +kernel, rfl⟩
set_option maxRecDepth 100000 in
theorem d_M_firms_56 : Dj m_M_firms 56 (.ifCond .eq) 59 62 := ⟨6, by decide +kernel, rfl, by decide⟩
set_option maxRecDepth 100000 in
theorem d_M_firms_59 : Dc m_M_firms 59 (.iload 6) 2 61 := ⟨by decide +kernel, rfl⟩
set_option maxRecDepth 100000 in
theorem d_M_firms_61 : Dc m_M_firms 61 .ireturn 1 62 := ⟨by decide +kernel, rfl⟩
set_option maxRecDepth 100000 in
theorem d_M_firms_62 : Dc m_M_firms 62 (.iload_n 2) 1 63 := ⟨by decide +kernel, rfl⟩
set_option maxRecDepth 100000 in
theorem d_M_firms_63 : Dj m_M_firms 63 (.ifCond .lt) 66 79 := ⟨16, by decide +kernel, rfl, by decide⟩
set_option maxRecDepth 100000 in
theorem d_M_firms_66 : Dc m_M_firms 66 (.iload_n 2) 1 67 := ⟨by decide +kernel, rfl⟩
set_option maxRecDepth 100000 in
theorem d_M_firms_67 : Dc m_M_firms 67 (.aload_n 0) 1 68 := ⟨by decide +kernel, rfl⟩
set_option maxRecDepth 100000 in
theorem d_M_firms_68 : Dc m_M_firms 68 (.getfield 47) 3 71 := ⟨by decide +kernel, rfl⟩
set_option maxRecDepth 100000 in
theorem d_M_firms_71 : Dc m_M_firms 71 (.iload_n 1) 1 72 := ⟨by decide +kernel, rfl⟩
set_option maxRecDepth 100000 in
theorem d_M_firms_72 : Dc m_M_firms 72 .iaload 1 73 := ⟨by decide +kernel, rfl⟩
set_option maxRecDepth 100000 in
theorem d_M_firms_73 : Dc m_M_firms 73 (.iload 5) 2 75 := ⟨by decide +kernel, rfl⟩
set_option maxRecDepth 100000 in
theorem d_M_firms_75 : Dc m_M_firms 75 .isub 1 76 := ⟨by decide +kernel, rfl⟩
set_option maxRecDepth 100000 in
theorem d_M_firms_76 : Dj m_M_firms 76 (.if_icmp .le) 79 82 := ⟨6, by decide +kernel, rfl, by decide⟩
set_option maxRecDepth 100000 in
theorem d_M_firms_79 : Dc m_M_firms 79 (.bipush (-12)) 2 81 := ⟨by decide +kernel, rfl⟩
set_option maxRecDepth 100000 in
theorem d_M_firms_81 : Dc m_M_firms 81 .ireturn 1 82 := ⟨by decide +kernel, rfl⟩
set_option maxRecDepth 100000 in
theorem d_M_firms_82 : Dc m_M_firms 82 (.iconst 0) 1 83 := ⟨by decide +kernel, rfl⟩
set_option maxRecDepth 100000 in
theorem d_M_firms_83 : Dc m_M_firms 83 (.istore 7) 2 85 := ⟨by decide +kernel, rfl⟩
set_option maxRecDepth 100000 in
theorem d_M_firms_85 : Dc m_M_firms 85 (.iload 7) 2 87 := ⟨by decide +kernel, rfl⟩
set_option maxRecDepth 100000 in
theorem d_M_firms_87 : Dc m_M_firms 87 (.iload 5) 2 89 := ⟨by decide +kernel, rfl⟩
set_option maxRecDepth 100000 in
theorem d_M_firms_89 : Dj m_M_firms 89 (.if_icmp .ge) 92 135 := ⟨46, by decide +kernel, rfl, by decide⟩
set_option maxRecDepth 100000 in
theorem d_M_firms_92 : Dc m_M_firms 92 (.aload_n 0) 1 93 := ⟨by decide +kernel, rfl⟩
set_option maxRecDepth 100000 in
theorem d_M_firms_93 : Dc m_M_firms 93 (.getfield 50) 3 96 := ⟨by decide +kernel, rfl⟩
set_option maxRecDepth 100000 in
theorem d_M_firms_96 : Dc m_M_firms 96 (.bipush (40)) 2 98 := ⟨by decide +kernel, rfl⟩
set_option maxRecDepth 100000 in
theorem d_M_firms_98 : Dc m_M_firms 98 (.iload_n 1) 1 99 := ⟨by decide +kernel, rfl⟩
set_option maxRecDepth 100000 in
theorem d_M_firms_99 : Dc m_M_firms 99 .imul 1 100 := ⟨by decide +kernel, rfl⟩
set_option maxRecDepth 100000 in
theorem d_M_firms_100 : Dc m_M_firms 100 (.iload_n 2) 1 101 := ⟨by decide +kernel, rfl⟩
set_option maxRecDepth 100000 in
theorem d_M_firms_101 : Dc m_M_firms 101 .iadd 1 102 := ⟨by decide +kernel, rfl⟩
set_option maxRecDepth 100000 in
theorem d_M_firms_102 : Dc m_M_firms 102 (.iload 7) 2 104 := ⟨by decide +kernel, rfl⟩
set_option maxRecDepth 100000 in
theorem d_M_firms_104 : Dc m_M_firms 104 .iadd 1 105 := ⟨by decide +kernel, rfl⟩
set_option maxRecDepth 100000 in
theorem d_M_firms_105 : Dc m_M_firms 105 .laload 1 106 := ⟨by decide +kernel, rfl⟩
set_option maxRecDepth 100000 in
theorem d_M_firms_106 : Dc m_M_firms 106 (.lstore 8) 2 108 := ⟨by decide +kernel, rfl⟩
set_option maxRecDepth 100000 in
theorem d_M_firms_108 : Dc m_M_firms 108 (.aload_n 0) 1 109 := ⟨by decide +kernel, rfl⟩
set_option maxRecDepth 100000 in
theorem d_M_firms_109 : Dc m_M_firms 109 (.getfield 7) 3 112 := ⟨by decide +kernel, rfl⟩
set_option maxRecDepth 100000 in
theorem d_M_firms_112 : Dc m_M_firms 112 (.aload_n 0) 1 113 := ⟨by decide +kernel, rfl⟩
set_option maxRecDepth 100000 in
theorem d_M_firms_113 : Dc m_M_firms 113 (.iload_n 3) 1 114 := ⟨by decide +kernel, rfl⟩
set_option maxRecDepth 100000 in
theorem d_M_firms_114 : Dc m_M_firms 114 (.iload 4) 2 116 := ⟨by decide +kernel, rfl⟩
set_option maxRecDepth 100000 in
theorem d_M_firms_116 : Dc m_M_firms 116 (.iload 7) 2 118 := ⟨by decide +kernel, rfl⟩
set_option maxRecDepth 100000 in
theorem d_M_firms_118 : Dc m_M_firms 118 .iadd 1 119 := ⟨by decide +kernel, rfl⟩
set_option maxRecDepth 100000 in
theorem d_M_firms_119 : Dc m_M_firms 119 (.invokevirtual 109) 3 122 := ⟨by decide +kernel, rfl⟩
set_option maxRecDepth 100000 in
theorem d_M_firms_122 : Dc m_M_firms 122 (.lload 8) 2 124 := ⟨by decide +kernel, rfl⟩
set_option maxRecDepth 100000 in
theorem d_M_firms_124 : Dc m_M_firms 124 .l2i 1 125 := ⟨by decide +kernel, rfl⟩
set_option maxRecDepth 100000 in
theorem d_M_firms_125 : Dc m_M_firms 125 (.invokestatic 139) 3 128 := ⟨by decide +kernel, rfl⟩
set_option maxRecDepth 100000 in
theorem d_M_firms_128 : Dc m_M_firms 128 .iastore 1 129 := ⟨by decide +kernel, rfl⟩
set_option maxRecDepth 100000 in
theorem d_M_firms_129 : Dc m_M_firms 129 (.iinc 7 (1)) 3 132 := ⟨by decide +kernel, rfl⟩
set_option maxRecDepth 100000 in
theorem d_M_firms_132 : Dj m_M_firms 132 .goto 135 85 := ⟨-47, by decide +kernel, rfl, by decide⟩
set_option maxRecDepth 100000 in
theorem d_M_firms_135 : Dc m_M_firms 135 (.iload 5) 2 137 := ⟨by decide +kernel, rfl⟩
set_option maxRecDepth 100000 in
theorem d_M_firms_137 : Dc m_M_firms 137 .ireturn 1 138 := ⟨by decide +kernel, rfl⟩
set_option maxRecDepth 100000 in
theorem d_M_isShelf_0 : Dc m_M_isShelf 0 (.iload_n 0) 1 1 := ⟨by decide +kernel, rfl⟩
set_option maxRecDepth 100000 in
theorem d_M_isShelf_1 : Dc m_M_isShelf 1 (.iconst 0) 1 2 := ⟨by decide +kernel, rfl⟩
set_option maxRecDepth 100000 in
theorem d_M_isShelf_2 : Dc m_M_isShelf 2 (.iconst 3) 1 3 := ⟨by decide +kernel, rfl⟩
set_option maxRecDepth 100000 in
theorem d_M_isShelf_3 : Dc m_M_isShelf 3 (.invokestatic 72) 3 6 := ⟨by decide +kernel, rfl⟩
set_option maxRecDepth 100000 in
theorem d_M_isShelf_6 : Dc m_M_isShelf 6 .ireturn 1 7 := ⟨by decide +kernel, rfl⟩
set_option maxRecDepth 100000 in
theorem d_M_sheet_0 : Dc m_M_sheet 0 (.iload_n 1) 1 1 := ⟨by decide +kernel, rfl⟩
set_option maxRecDepth 100000 in
theorem d_M_sheet_1 : Dc m_M_sheet 1 (.invokestatic 308) 3 4 := ⟨by decide +kernel, rfl⟩
set_option maxRecDepth 100000 in
theorem d_M_sheet_4 : Dj m_M_sheet 4 (.ifCond .eq) 7 26 := ⟨22, by decide +kernel, rfl, by decide⟩
set_option maxRecDepth 100000 in
theorem d_M_sheet_7 : Dc m_M_sheet 7 (.iload_n 2) 1 8 := ⟨by decide +kernel, rfl⟩
set_option maxRecDepth 100000 in
theorem d_M_sheet_8 : Dc m_M_sheet 8 (.iconst (-1)) 1 9 := ⟨by decide +kernel, rfl⟩
set_option maxRecDepth 100000 in
theorem d_M_sheet_9 : Dc m_M_sheet 9 (.iconst 3) 1 10 := ⟨by decide +kernel, rfl⟩
set_option maxRecDepth 100000 in
theorem d_M_sheet_10 : Dc m_M_sheet 10 (.invokestatic 72) 3 13 := ⟨by decide +kernel, rfl⟩
set_option maxRecDepth 100000 in
theorem d_M_sheet_13 : Dj m_M_sheet 13 (.ifCond .eq) 16 26 := ⟨13, by decide +kernel, rfl, by decide⟩
set_option maxRecDepth 100000 in
theorem d_M_sheet_16 : Dc m_M_sheet 16 (.iload_n 2) 1 17 := ⟨by decide +kernel, rfl⟩
set_option maxRecDepth 100000 in
theorem d_M_sheet_17 : Dj m_M_sheet 17 (.ifCond .lt) 20 28 := ⟨11, by decide +kernel, rfl, by decide⟩
set_option maxRecDepth 100000 in
theorem d_M_sheet_20 : Dc m_M_sheet 20 (.iload_n 3) 1 21 := ⟨by decide +kernel, rfl⟩
set_option maxRecDepth 100000 in
theorem d_M_sheet_21 : Dc m_M_sheet 21 (.bipush (40)) 2 23 := ⟨by decide +kernel, rfl⟩
set_option maxRecDepth 100000 in
theorem d_M_sheet_23 : Dj m_M_sheet 23 (.if_icmp .le) 26 28 := ⟨5, by decide +kernel, rfl, by decide⟩
set_option maxRecDepth 100000 in
theorem d_M_sheet_26 : Dc m_M_sheet 26 (.iconst (-1)) 1 27 := ⟨by decide +kernel, rfl⟩
set_option maxRecDepth 100000 in
theorem d_M_sheet_27 : Dc m_M_sheet 27 .ireturn 1 28 := ⟨by decide +kernel, rfl⟩
set_option maxRecDepth 100000 in
theorem d_M_sheet_28 : Dc m_M_sheet 28 (.iload_n 2) 1 29 := ⟨by decide +kernel, rfl⟩
set_option maxRecDepth 100000 in
theorem d_M_sheet_29 : Dj m_M_sheet 29 (.ifCond .lt) 32 39 := ⟨10, by decide +kernel, rfl, by decide⟩
set_option maxRecDepth 100000 in
theorem d_M_sheet_32 : Dc m_M_sheet 32 (.iload_n 3) 1 33 := ⟨by decide +kernel, rfl⟩
set_option maxRecDepth 100000 in
theorem d_M_sheet_33 : Dj m_M_sheet 33 (.ifCond .ge) 36 39 := ⟨6, by decide +kernel, rfl, by decide⟩
set_option maxRecDepth 100000 in
theorem d_M_sheet_36 : Dc m_M_sheet 36 (.bipush (-14)) 2 38 := ⟨by decide +kernel, rfl⟩
set_option maxRecDepth 100000 in
theorem d_M_sheet_38 : Dc m_M_sheet 38 .ireturn 1 39 := ⟨by decide +kernel, rfl⟩
set_option maxRecDepth 100000 in
theorem d_M_sheet_39 : Dc m_M_sheet 39 (.aload_n 0) 1 40 := ⟨by decide +kernel, rfl⟩
set_option maxRecDepth 100000 in
theorem d_M_sheet_40 : Dc m_M_sheet 40 (.getfield 44) 3 43 := ⟨by decide +kernel, rfl⟩
set_option maxRecDepth 100000 in
theorem d_M_sheet_43 : Dc m_M_sheet 43 (.iload_n 1) 1 44 := ⟨by decide +kernel, rfl⟩
set_option maxRecDepth 100000 in
theorem d_M_sheet_44 : Dc m_M_sheet 44 (.iload_n 2) 1 45 := ⟨by decide +kernel, rfl⟩
set_option maxRecDepth 100000 in
theorem d_M_sheet_45 : Dc m_M_sheet 45 .iastore 1 46 := ⟨by decide +kernel, rfl⟩
set_option maxRecDepth 100000 in
theorem d_M_sheet_46 : Dc m_M_sheet 46 (.aload_n 0) 1 47 := ⟨by decide +kernel, rfl⟩
set_option maxRecDepth 100000 in
theorem d_M_sheet_47 : Dc m_M_sheet 47 (.getfield 47) 3 50 := ⟨by decide +kernel, rfl⟩
set_option maxRecDepth 100000 in
theorem d_M_sheet_50 : Dc m_M_sheet 50 (.iload_n 1) 1 51 := ⟨by decide +kernel, rfl⟩
set_option maxRecDepth 100000 in
theorem d_M_sheet_51 : Dc m_M_sheet 51 (.iload_n 2) 1 52 := ⟨by decide +kernel, rfl⟩
set_option maxRecDepth 100000 in
theorem d_M_sheet_52 : Dj m_M_sheet 52 (.ifCond .ge) 55 59 := ⟨7, by decide +kernel, rfl, by decide⟩
set_option maxRecDepth 100000 in
theorem d_M_sheet_55 : Dc m_M_sheet 55 (.iconst 0) 1 56 := ⟨by decide +kernel, rfl⟩
set_option maxRecDepth 100000 in
theorem d_M_sheet_56 : Dj m_M_sheet 56 .goto 59 60 := ⟨4, by decide +kernel, rfl, by decide⟩
set_option maxRecDepth 100000 in
theorem d_M_sheet_59 : Dc m_M_sheet 59 (.iload_n 3) 1 60 := ⟨by decide +kernel, rfl⟩
set_option maxRecDepth 100000 in
theorem d_M_sheet_60 : Dc m_M_sheet 60 .iastore 1 61 := ⟨by decide +kernel, rfl⟩
set_option maxRecDepth 100000 in
theorem d_M_sheet_61 : Dc m_M_sheet 61 (.iconst 0) 1 62 := ⟨by decide +kernel, rfl⟩
set_option maxRecDepth 100000 in
theorem d_M_sheet_62 : Dc m_M_sheet 62 (.istore 4) 2 64 := ⟨by decide +kernel, rfl⟩
set_option maxRecDepth 100000 in
theorem d_M_sheet_64 : Dc m_M_sheet 64 (.iload 4) 2 66 := ⟨by decide +kernel, rfl⟩
set_option maxRecDepth 100000 in
theorem d_M_sheet_66 : Dc m_M_sheet 66 (.bipush (40)) 2 68 := ⟨by decide +kernel, rfl⟩
set_option maxRecDepth 100000 in
theorem d_M_sheet_68 : Dj m_M_sheet 68 (.if_icmp .ge) 71 90 := ⟨22, by decide +kernel, rfl, by decide⟩
set_option maxRecDepth 100000 in
theorem d_M_sheet_71 : Dc m_M_sheet 71 (.aload_n 0) 1 72 := ⟨by decide +kernel, rfl⟩
set_option maxRecDepth 100000 in
theorem d_M_sheet_72 : Dc m_M_sheet 72 (.getfield 50) 3 75 := ⟨by decide +kernel, rfl⟩
set_option maxRecDepth 100000 in
theorem d_M_sheet_75 : Dc m_M_sheet 75 (.bipush (40)) 2 77 := ⟨by decide +kernel, rfl⟩
set_option maxRecDepth 100000 in
theorem d_M_sheet_77 : Dc m_M_sheet 77 (.iload_n 1) 1 78 := ⟨by decide +kernel, rfl⟩
set_option maxRecDepth 100000 in
theorem d_M_sheet_78 : Dc m_M_sheet 78 .imul 1 79 := ⟨by decide +kernel, rfl⟩
set_option maxRecDepth 100000 in
theorem d_M_sheet_79 : Dc m_M_sheet 79 (.iload 4) 2 81 := ⟨by decide +kernel, rfl⟩
set_option maxRecDepth 100000 in
theorem d_M_sheet_81 : Dc m_M_sheet 81 .iadd 1 82 := ⟨by decide +kernel, rfl⟩
set_option maxRecDepth 100000 in
theorem d_M_sheet_82 : Dc m_M_sheet 82 (.lconst 0) 1 83 := ⟨by decide +kernel, rfl⟩
set_option maxRecDepth 100000 in
theorem d_M_sheet_83 : Dc m_M_sheet 83 .lastore 1 84 := ⟨by decide +kernel, rfl⟩
set_option maxRecDepth 100000 in
theorem d_M_sheet_84 : Dc m_M_sheet 84 (.iinc 4 (1)) 3 87 := ⟨by decide +kernel, rfl⟩
set_option maxRecDepth 100000 in
theorem d_M_sheet_87 : Dj m_M_sheet 87 .goto 90 64 := ⟨-23, by decide +kernel, rfl, by decide⟩
set_option maxRecDepth 100000 in
theorem d_M_sheet_90 : Dc m_M_sheet 90 (.iconst 1) 1 91 := ⟨by decide +kernel, rfl⟩
set_option maxRecDepth 100000 in
theorem d_M_sheet_91 : Dc m_M_sheet 91 .ireturn 1 92 := ⟨by decide +kernel, rfl⟩
set_option maxRecDepth 100000 in
theorem d_M_put_0 : Dc m_M_put 0 (.iload_n 1) 1 1 := ⟨by decide +kernel, rfl⟩
set_option maxRecDepth 100000 in
theorem d_M_put_1 : Dc m_M_put 1 (.invokestatic 308) 3 4 := ⟨by decide +kernel, rfl⟩
set_option maxRecDepth 100000 in
theorem d_M_put_4 : Dj m_M_put 4 (.ifCond .ne) 7 9 := ⟨5, by decide +kernel, rfl, by decide⟩
set_option maxRecDepth 100000 in
theorem d_M_put_7 : Dc m_M_put 7 (.iconst (-1)) 1 8 := ⟨by decide +kernel, rfl⟩
set_option maxRecDepth 100000 in
theorem d_M_put_8 : Dc m_M_put 8 .ireturn 1 9 := ⟨by decide +kernel, rfl⟩
set_option maxRecDepth 100000 in
theorem d_M_put_9 : Dc m_M_put 9 (.aload_n 0) 1 10 := ⟨by decide +kernel, rfl⟩
set_option maxRecDepth 100000 in
theorem d_M_put_10 : Dc m_M_put 10 (.getfield 44) 3 13 := ⟨by decide +kernel, rfl⟩
set_option maxRecDepth 100000 in
theorem d_M_put_13 : Dc m_M_put 13 (.iload_n 1) 1 14 := ⟨by decide +kernel, rfl⟩
set_option maxRecDepth 100000 in
theorem d_M_put_14 : Dc m_M_put 14 .iaload 1 15 := ⟨by decide +kernel, rfl⟩
set_option maxRecDepth 100000 in
theorem d_M_put_15 : Dj m_M_put 15 (.ifCond .ge) 18 21 := ⟨6, by decide +kernel, rfl, by decide⟩
set_option maxRecDepth 100000 in
theorem d_M_put_18 : Dc m_M_put 18 (.bipush (-11)) 2 20 := ⟨by decide +kernel, rfl⟩
set_option maxRecDepth 100000 in
theorem d_M_put_20 : Dc m_M_put 20 .ireturn 1 21 := ⟨by decide +kernel, rfl⟩
set_option maxRecDepth 100000 in
theorem d_M_put_21 : Dc m_M_put 21 (.iload_n 2) 1 22 := ⟨by decide +kernel, rfl⟩
set_option maxRecDepth 100000 in
theorem d_M_put_22 : Dc m_M_put 22 (.iconst 0) 1 23 := ⟨by decide +kernel, rfl⟩
set_option maxRecDepth 100000 in
theorem d_M_put_23 : Dc m_M_put 23 (.aload_n 0) 1 24 := ⟨by decide +kernel, rfl⟩
set_option maxRecDepth 100000 in
theorem d_M_put_24 : Dc m_M_put 24 (.getfield 47) 3 27 := ⟨by decide +kernel, rfl⟩
set_option maxRecDepth 100000 in
theorem d_M_put_27 : Dc m_M_put 27 (.iload_n 1) 1 28 := ⟨by decide +kernel, rfl⟩
set_option maxRecDepth 100000 in
theorem d_M_put_28 : Dc m_M_put 28 .iaload 1 29 := ⟨by decide +kernel, rfl⟩
set_option maxRecDepth 100000 in
theorem d_M_put_29 : Dc m_M_put 29 (.iconst 1) 1 30 := ⟨by decide +kernel, rfl⟩
set_option maxRecDepth 100000 in
theorem d_M_put_30 : Dc m_M_put 30 .isub 1 31 := ⟨by decide +kernel, rfl⟩
set_option maxRecDepth 100000 in
theorem d_M_put_31 : Dc m_M_put 31 (.invokestatic 72) 3 34 := ⟨by decide +kernel, rfl⟩
set_option maxRecDepth 100000 in
theorem d_M_put_34 : Dj m_M_put 34 (.ifCond .ne) 37 40 := ⟨6, by decide +kernel, rfl, by decide⟩
set_option maxRecDepth 100000 in
theorem d_M_put_37 : Dc m_M_put 37 (.bipush (-12)) 2 39 := ⟨by decide +kernel, rfl⟩
set_option maxRecDepth 100000 in
theorem d_M_put_39 : Dc m_M_put 39 .ireturn 1 40 := ⟨by decide +kernel, rfl⟩
set_option maxRecDepth 100000 in
theorem d_M_put_40 : Dc m_M_put 40 (.aload_n 0) 1 41 := ⟨by decide +kernel, rfl⟩
set_option maxRecDepth 100000 in
theorem d_M_put_41 : Dc m_M_put 41 (.getfield 50) 3 44 := ⟨by decide +kernel, rfl⟩
set_option maxRecDepth 100000 in
theorem d_M_put_44 : Dc m_M_put 44 (.bipush (40)) 2 46 := ⟨by decide +kernel, rfl⟩
set_option maxRecDepth 100000 in
theorem d_M_put_46 : Dc m_M_put 46 (.iload_n 1) 1 47 := ⟨by decide +kernel, rfl⟩
set_option maxRecDepth 100000 in
theorem d_M_put_47 : Dc m_M_put 47 .imul 1 48 := ⟨by decide +kernel, rfl⟩
set_option maxRecDepth 100000 in
theorem d_M_put_48 : Dc m_M_put 48 (.iload_n 2) 1 49 := ⟨by decide +kernel, rfl⟩
set_option maxRecDepth 100000 in
theorem d_M_put_49 : Dc m_M_put 49 .iadd 1 50 := ⟨by decide +kernel, rfl⟩
set_option maxRecDepth 100000 in
theorem d_M_put_50 : Dc m_M_put 50 (.aload_n 0) 1 51 := ⟨by decide +kernel, rfl⟩
set_option maxRecDepth 100000 in
theorem d_M_put_51 : Dc m_M_put 51 (.getfield 44) 3 54 := ⟨by decide +kernel, rfl⟩
set_option maxRecDepth 100000 in
theorem d_M_put_54 : Dc m_M_put 54 (.iload_n 1) 1 55 := ⟨by decide +kernel, rfl⟩
set_option maxRecDepth 100000 in
theorem d_M_put_55 : Dc m_M_put 55 .iaload 1 56 := ⟨by decide +kernel, rfl⟩
set_option maxRecDepth 100000 in
theorem d_M_put_56 : Dj m_M_put 56 (.ifCond .ne) 59 65 := ⟨9, by decide +kernel, rfl, by decide⟩
set_option maxRecDepth 100000 in
theorem d_M_put_59 : Dc m_M_put 59 (.iload_n 3) 1 60 := ⟨by decide +kernel, rfl⟩
set_option maxRecDepth 100000 in
theorem d_M_put_60 : Dc m_M_put 60 .i2b 1 61 := ⟨by decide +kernel, rfl⟩
set_option maxRecDepth 100000 in
theorem d_M_put_61 : Dc m_M_put 61 .i2l 1 62 := ⟨by decide +kernel, rfl⟩
set_option maxRecDepth 100000 in
theorem d_M_put_62 : Dj m_M_put 62 .goto 65 83 := ⟨21, by decide +kernel, rfl, by decide⟩
set_option maxRecDepth 100000 in
theorem d_M_put_65 : Dc m_M_put 65 (.aload_n 0) 1 66 := ⟨by decide +kernel, rfl⟩
set_option maxRecDepth 100000 in
theorem d_M_put_66 : Dc m_M_put 66 (.getfield 44) 3 69 := ⟨by decide +kernel, rfl⟩
set_option maxRecDepth 100000 in
theorem d_M_put_69 : Dc m_M_put 69 (.iload_n 1) 1 70 := ⟨by decide +kernel, rfl⟩
set_option maxRecDepth 100000 in
theorem d_M_put_70 : Dc m_M_put 70 .iaload 1 71 := ⟨by decide +kernel, rfl⟩
set_option maxRecDepth 100000 in
theorem d_M_put_71 : Dc m_M_put 71 (.iconst 1) 1 72 := ⟨by decide +kernel, rfl⟩
set_option maxRecDepth 100000 in
theorem d_M_put_72 : Dj m_M_put 72 (.if_icmp .ne) 75 81 := ⟨9, by decide +kernel, rfl, by decide⟩
set_option maxRecDepth 100000 in
theorem d_M_put_75 : Dc m_M_put 75 (.iload_n 3) 1 76 := ⟨by decide +kernel, rfl⟩
set_option maxRecDepth 100000 in
theorem d_M_put_76 : Dc m_M_put 76 .i2s 1 77 := ⟨by decide +kernel, rfl⟩
set_option maxRecDepth 100000 in
theorem d_M_put_77 : Dc m_M_put 77 .i2l 1 78 := ⟨by decide +kernel, rfl⟩
set_option maxRecDepth 100000 in
theorem d_M_put_78 : Dj m_M_put 78 .goto 81 83 := ⟨5, by decide +kernel, rfl, by decide⟩
set_option maxRecDepth 100000 in
theorem d_M_put_81 : Dc m_M_put 81 (.iload_n 3) 1 82 := ⟨by decide +kernel, rfl⟩
set_option maxRecDepth 100000 in
theorem d_M_put_82 : Dc m_M_put 82 .i2l 1 83 := ⟨by decide +kernel, rfl⟩
set_option maxRecDepth 100000 in
theorem d_M_put_83 : Dc m_M_put 83 .lastore 1 84 := ⟨by decide +kernel, rfl⟩
set_option maxRecDepth 100000 in
theorem d_M_put_84 : Dc m_M_put 84 (.iconst 1) 1 85 := ⟨by decide +kernel, rfl⟩
set_option maxRecDepth 100000 in
theorem d_M_put_85 : Dc m_M_put 85 .ireturn 1 86 := ⟨by decide +kernel, rfl⟩
set_option maxRecDepth 100000 in
theorem d_M_lacksSort_0 : Dc m_M_lacksSort 0 (.aload_n 0) 1 1 := ⟨by decide +kernel, rfl⟩
set_option maxRecDepth 100000 in
theorem d_M_lacksSort_1 : Dc m_M_lacksSort 1 (.getfield 44) 3 4 := ⟨by decide +kernel, rfl⟩
set_option maxRecDepth 100000 in
theorem d_M_lacksSort_4 : Dc m_M_lacksSort 4 (.iload_n 1) 1 5 := ⟨by decide +kernel, rfl⟩
set_option maxRecDepth 100000 in
theorem d_M_lacksSort_5 : Dc m_M_lacksSort 5 .iaload 1 6 := ⟨by decide +kernel, rfl⟩
set_option maxRecDepth 100000 in
theorem d_M_lacksSort_6 : Dj m_M_lacksSort 6 (.ifCond .ge) 9 14 := ⟨8, by decide +kernel, rfl, by decide⟩
set_option maxRecDepth 100000 in
theorem d_M_lacksSort_9 : Dc m_M_lacksSort 9 (.bipush (-11)) 2 11 := ⟨by decide +kernel, rfl⟩
set_option maxRecDepth 100000 in
theorem d_M_lacksSort_11 : Dj m_M_lacksSort 11 .goto 14 30 := ⟨19, by decide +kernel, rfl, by decide⟩
set_option maxRecDepth 100000 in
theorem d_M_lacksSort_14 : Dc m_M_lacksSort 14 (.aload_n 0) 1 15 := ⟨by decide +kernel, rfl⟩
set_option maxRecDepth 100000 in
theorem d_M_lacksSort_15 : Dc m_M_lacksSort 15 (.getfield 44) 3 18 := ⟨by decide +kernel, rfl⟩
set_option maxRecDepth 100000 in
theorem d_M_lacksSort_18 : Dc m_M_lacksSort 18 (.iload_n 1) 1 19 := ⟨by decide +kernel, rfl⟩
set_option maxRecDepth 100000 in
theorem d_M_lacksSort_19 : Dc m_M_lacksSort 19 .iaload 1 20 := ⟨by decide +kernel, rfl⟩
set_option maxRecDepth 100000 in
theorem d_M_lacksSort_20 : Dc m_M_lacksSort 20 (.iload_n 2) 1 21 := ⟨by decide +kernel, rfl⟩
set_option maxRecDepth 100000 in
theorem d_M_lacksSort_21 : Dj m_M_lacksSort 21 (.if_icmp .eq) 24 29 := ⟨8, by decide +kernel, rfl, by decide⟩
set_option maxRecDepth 100000 in
theorem d_M_lacksSort_24 : Dc m_M_lacksSort 24 (.bipush (-13)) 2 26 := ⟨by decide +kernel, rfl⟩
set_option maxRecDepth 100000 in
theorem d_M_lacksSort_26 : Dj m_M_lacksSort 26 .goto 29 30 := ⟨4, by decide +kernel, rfl, by decide⟩
set_option maxRecDepth 100000 in
theorem d_M_lacksSort_29 : Dc m_M_lacksSort 29 (.iconst 0) 1 30 := ⟨by decide +kernel, rfl⟩
set_option maxRecDepth 100000 in
theorem d_M_lacksSort_30 : Dc m_M_lacksSort 30 .ireturn 1 31 := ⟨by decide +kernel, rfl⟩
set_option maxRecDepth 100000 in
theorem d_M_number_0 : Dc m_M_number 0 (.iload_n 1) 1 1 := ⟨by decide +kernel, rfl⟩
set_option maxRecDepth 100000 in
theorem d_M_number_1 : Dc m_M_number 1 (.invokestatic 308) 3 4 := ⟨by decide +kernel, rfl⟩
set_option maxRecDepth 100000 in
theorem d_M_number_4 : Dj m_M_number 4 (.ifCond .eq) 7 16 := ⟨12, by decide +kernel, rfl, by decide⟩
set_option maxRecDepth 100000 in
theorem d_M_number_7 : Dc m_M_number 7 (.iload_n 2) 1 8 := ⟨by decide +kernel, rfl⟩
set_option maxRecDepth 100000 in
theorem d_M_number_8 : Dc m_M_number 8 (.iconst 0) 1 9 := ⟨by decide +kernel, rfl⟩
set_option maxRecDepth 100000 in
theorem d_M_number_9 : Dc m_M_number 9 (.iconst 3) 1 10 := ⟨by decide +kernel, rfl⟩
set_option maxRecDepth 100000 in
theorem d_M_number_10 : Dc m_M_number 10 (.invokestatic 72) 3 13 := ⟨by decide +kernel, rfl⟩
set_option maxRecDepth 100000 in
theorem d_M_number_13 : Dj m_M_number 13 (.ifCond .ne) 16 18 := ⟨5, by decide +kernel, rfl, by decide⟩
set_option maxRecDepth 100000 in
theorem d_M_number_16 : Dc m_M_number 16 (.iconst (-1)) 1 17 := ⟨by decide +kernel, rfl⟩
set_option maxRecDepth 100000 in
theorem d_M_number_17 : Dc m_M_number 17 .ireturn 1 18 := ⟨by decide +kernel, rfl⟩
set_option maxRecDepth 100000 in
theorem d_M_number_18 : Dc m_M_number 18 (.aload_n 0) 1 19 := ⟨by decide +kernel, rfl⟩
set_option maxRecDepth 100000 in
theorem d_M_number_19 : Dc m_M_number 19 (.iload_n 1) 1 20 := ⟨by decide +kernel, rfl⟩
set_option maxRecDepth 100000 in
theorem d_M_number_20 : Dc m_M_number 20 (.iload_n 2) 1 21 := ⟨by decide +kernel, rfl⟩
set_option maxRecDepth 100000 in
theorem d_M_number_21 : Dc m_M_number 21 (.invokevirtual 311) 3 24 := ⟨by decide +kernel, rfl⟩
set_option maxRecDepth 100000 in
theorem d_M_number_24 : Dc m_M_number 24 (.istore 4) 2 26 := ⟨by decide +kernel, rfl⟩
set_option maxRecDepth 100000 in
theorem d_M_number_26 : Dc m_M_number 26 (.iload 4) 2 28 := ⟨by decide +kernel, rfl⟩
set_option maxRecDepth 100000 in
theorem d_M_number_28 : Dj m_M_number 28 (.ifCond .eq) 31 34 := ⟨6, by decide +kernel, rfl, by decide⟩
set_option maxRecDepth 100000 in
theorem d_M_number_31 : Dc m_M_number 31 (.iload 4) 2 33 := ⟨by decide +kernel, rfl⟩
set_option maxRecDepth 100000 in
theorem d_M_number_33 : Dc m_M_number 33 .ireturn 1 34 := ⟨by decide +kernel, rfl⟩
set_option maxRecDepth 100000 in
theorem d_M_number_34 : Dc m_M_number 34 (.iload_n 3) 1 35 := ⟨by decide +kernel, rfl⟩
set_option maxRecDepth 100000 in
theorem d_M_number_35 : Dc m_M_number 35 (.iconst 0) 1 36 := ⟨by decide +kernel, rfl⟩
set_option maxRecDepth 100000 in
theorem d_M_number_36 : Dc m_M_number 36 (.aload_n 0) 1 37 := ⟨by decide +kernel, rfl⟩
set_option maxRecDepth 100000 in
theorem d_M_number_37 : Dc m_M_number 37 (.getfield 47) 3 40 := ⟨by decide +kernel, rfl⟩
set_option maxRecDepth 100000 in
theorem d_M_number_40 : Dc m_M_number 40 (.iload_n 1) 1 41 := ⟨by decide +kernel, rfl⟩
set_option maxRecDepth 100000 in
theorem d_M_number_41 : Dc m_M_number 41 .iaload 1 42 := ⟨by decide +kernel, rfl⟩
set_option maxRecDepth 100000 in
theorem d_M_number_42 : Dc m_M_number 42 (.iconst 1) 1 43 := ⟨by decide +kernel, rfl⟩
set_option maxRecDepth 100000 in
theorem d_M_number_43 : Dc m_M_number 43 .isub 1 44 := ⟨by decide +kernel, rfl⟩
set_option maxRecDepth 100000 in
theorem d_M_number_44 : Dc m_M_number 44 (.invokestatic 72) 3 47 := ⟨by decide +kernel, rfl⟩
set_option maxRecDepth 100000 in
theorem d_M_number_47 : Dj m_M_number 47 (.ifCond .eq) 50 65 := ⟨18, by decide +kernel, rfl, by decide⟩
set_option maxRecDepth 100000 in
theorem d_M_number_50 : Dc m_M_number 50 (.aload_n 0) 1 51 := ⟨by decide +kernel, rfl⟩
set_option maxRecDepth 100000 in
theorem d_M_number_51 : Dc m_M_number 51 (.getfield 50) 3 54 := ⟨by decide +kernel, rfl⟩
set_option maxRecDepth 100000 in
theorem d_M_number_54 : Dc m_M_number 54 (.bipush (40)) 2 56 := ⟨by decide +kernel, rfl⟩
set_option maxRecDepth 100000 in
theorem d_M_number_56 : Dc m_M_number 56 (.iload_n 1) 1 57 := ⟨by decide +kernel, rfl⟩
set_option maxRecDepth 100000 in
theorem d_M_number_57 : Dc m_M_number 57 .imul 1 58 := ⟨by decide +kernel, rfl⟩
set_option maxRecDepth 100000 in
theorem d_M_number_58 : Dc m_M_number 58 (.iload_n 3) 1 59 := ⟨by decide +kernel, rfl⟩
set_option maxRecDepth 100000 in
theorem d_M_number_59 : Dc m_M_number 59 .iadd 1 60 := ⟨by decide +kernel, rfl⟩
set_option maxRecDepth 100000 in
theorem d_M_number_60 : Dc m_M_number 60 .laload 1 61 := ⟨by decide +kernel, rfl⟩
set_option maxRecDepth 100000 in
theorem d_M_number_61 : Dc m_M_number 61 .l2i 1 62 := ⟨by decide +kernel, rfl⟩
set_option maxRecDepth 100000 in
theorem d_M_number_62 : Dj m_M_number 62 .goto 65 67 := ⟨5, by decide +kernel, rfl, by decide⟩
set_option maxRecDepth 100000 in
theorem d_M_number_65 : Dc m_M_number 65 (.bipush (-12)) 2 67 := ⟨by decide +kernel, rfl⟩
set_option maxRecDepth 100000 in
theorem d_M_number_67 : Dc m_M_number 67 .ireturn 1 68 := ⟨by decide +kernel, rfl⟩
set_option maxRecDepth 100000 in
theorem d_M_isHeld_0 : Dc m_M_isHeld 0 (.iload_n 1) 1 1 := ⟨by decide +kernel, rfl⟩
set_option maxRecDepth 100000 in
theorem d_M_isHeld_1 : Dj m_M_isHeld 1 (.ifCond .ne) 4 12 := ⟨11, by decide +kernel, rfl, by decide⟩
set_option maxRecDepth 100000 in
theorem d_M_isHeld_4 : Dc m_M_isHeld 4 (.aload_n 0) 1 5 := ⟨by decide +kernel, rfl⟩
set_option maxRecDepth 100000 in
theorem d_M_isHeld_5 : Dc m_M_isHeld 5 (.iload_n 2) 1 6 := ⟨by decide +kernel, rfl⟩
set_option maxRecDepth 100000 in
theorem d_M_isHeld_6 : Dc m_M_isHeld 6 (.invokevirtual 115) 3 9 := ⟨by decide +kernel, rfl⟩
set_option maxRecDepth 100000 in
theorem d_M_isHeld_9 : Dj m_M_isHeld 9 .goto 12 34 := ⟨25, by decide +kernel, rfl, by decide⟩
set_option maxRecDepth 100000 in
theorem d_M_isHeld_12 : Dc m_M_isHeld 12 (.iload_n 1) 1 13 := ⟨by decide +kernel, rfl⟩
set_option maxRecDepth 100000 in
theorem d_M_isHeld_13 : Dc m_M_isHeld 13 (.iconst 1) 1 14 := ⟨by decide +kernel, rfl⟩
set_option maxRecDepth 100000 in
theorem d_M_isHeld_14 : Dj m_M_isHeld 14 (.if_icmp .ne) 17 24 := ⟨10, by decide +kernel, rfl, by decide⟩
set_option maxRecDepth 100000 in
theorem d_M_isHeld_17 : Dc m_M_isHeld 17 (.iload_n 2) 1 18 := ⟨by decide +kernel, rfl⟩
set_option maxRecDepth 100000 in
theorem d_M_isHeld_18 : Dc m_M_isHeld 18 (.invokestatic 308) 3 21 := ⟨by decide +kernel, rfl⟩
set_option maxRecDepth 100000 in
theorem d_M_isHeld_21 : Dj m_M_isHeld 21 .goto 24 34 := ⟨13, by decide +kernel, rfl, by decide⟩
set_option maxRecDepth 100000 in
theorem d_M_isHeld_24 : Dc m_M_isHeld 24 (.iload_n 1) 1 25 := ⟨by decide +kernel, rfl⟩
set_option maxRecDepth 100000 in
theorem d_M_isHeld_25 : Dc m_M_isHeld 25 (.iconst 2) 1 26 := ⟨by decide +kernel, rfl⟩
set_option maxRecDepth 100000 in
theorem d_M_isHeld_26 : Dj m_M_isHeld 26 (.if_icmp .ne) 29 33 := ⟨7, by decide +kernel, rfl, by decide⟩
set_option maxRecDepth 100000 in
theorem d_M_isHeld_29 : Dc m_M_isHeld 29 (.iconst 1) 1 30 := ⟨by decide +kernel, rfl⟩
set_option maxRecDepth 100000 in
theorem d_M_isHeld_30 : Dj m_M_isHeld 30 .goto 33 34 := ⟨4, by decide +kernel, rfl, by decide⟩
set_option maxRecDepth 100000 in
theorem d_M_isHeld_33 : Dc m_M_isHeld 33 (.iconst 0) 1 34 := ⟨by decide +kernel, rfl⟩
set_option maxRecDepth 100000 in
theorem d_M_isHeld_34 : Dc m_M_isHeld 34 .ireturn 1 35 := ⟨by decide +kernel, rfl⟩
set_option maxRecDepth 100000 in
theorem d_M_shelf_0 : Dc m_M_shelf 0 (.iload_n 1) 1 1 := ⟨by decide +kernel, rfl⟩
set_option maxRecDepth 100000 in
theorem d_M_shelf_1 : Dc m_M_shelf 1 (.invokestatic 308) 3 4 := ⟨by decide +kernel, rfl⟩
set_option maxRecDepth 100000 in
theorem d_M_shelf_4 : Dj m_M_shelf 4 (.ifCond .eq) 7 16 := ⟨12, by decide +kernel, rfl, by decide⟩
set_option maxRecDepth 100000 in
theorem d_M_shelf_7 : Dc m_M_shelf 7 (.aload_n 0) 1 8 := ⟨by decide +kernel, rfl⟩
set_option maxRecDepth 100000 in
theorem d_M_shelf_8 : Dc m_M_shelf 8 (.iload_n 2) 1 9 := ⟨by decide +kernel, rfl⟩
set_option maxRecDepth 100000 in
theorem d_M_shelf_9 : Dc m_M_shelf 9 (.iload_n 3) 1 10 := ⟨by decide +kernel, rfl⟩
set_option maxRecDepth 100000 in
theorem d_M_shelf_10 : Dc m_M_shelf 10 (.invokevirtual 314) 3 13 := ⟨by decide +kernel, rfl⟩
set_option maxRecDepth 100000 in
theorem d_M_shelf_13 : Dj m_M_shelf 13 (.ifCond .ne) 16 18 := ⟨5, by decide +kernel, rfl, by decide⟩
set_option maxRecDepth 100000 in
theorem d_M_shelf_16 : Dc m_M_shelf 16 (.iconst (-1)) 1 17 := ⟨by decide +kernel, rfl⟩
set_option maxRecDepth 100000 in
theorem d_M_shelf_17 : Dc m_M_shelf 17 .ireturn 1 18 := ⟨by decide +kernel, rfl⟩
set_option maxRecDepth 100000 in
theorem d_M_shelf_18 : Dc m_M_shelf 18 (.aload_n 0) 1 19 := ⟨by decide +kernel, rfl⟩
set_option maxRecDepth 100000 in
theorem d_M_shelf_19 : Dc m_M_shelf 19 (.getfield 54) 3 22 := ⟨by decide +kernel, rfl⟩
set_option maxRecDepth 100000 in
theorem d_M_shelf_22 : Dc m_M_shelf 22 (.iload_n 1) 1 23 := ⟨by decide +kernel, rfl⟩
set_option maxRecDepth 100000 in
theorem d_M_shelf_23 : Dc m_M_shelf 23 (.iload_n 2) 1 24 := ⟨by decide +kernel, rfl⟩
set_option maxRecDepth 100000 in
theorem d_M_shelf_24 : Dc m_M_shelf 24 (.iconst 2) 1 25 := ⟨by decide +kernel, rfl⟩
set_option maxRecDepth 100000 in
theorem d_M_shelf_25 : Dj m_M_shelf 25 (.if_icmp .eq) 28 42 := ⟨17, by decide +kernel, rfl, by decide⟩
set_option maxRecDepth 100000 in
theorem d_M_shelf_28 : Dc m_M_shelf 28 (.iload_n 2) 1 29 := ⟨by decide +kernel, rfl⟩
set_option maxRecDepth 100000 in
theorem d_M_shelf_29 : Dc m_M_shelf 29 (.iconst 1) 1 30 := ⟨by decide +kernel, rfl⟩
set_option maxRecDepth 100000 in
theorem d_M_shelf_30 : Dj m_M_shelf 30 (.if_icmp .ne) 33 46 := ⟨16, by decide +kernel, rfl, by decide⟩
set_option maxRecDepth 100000 in
theorem d_M_shelf_33 : Dc m_M_shelf 33 (.aload_n 0) 1 34 := ⟨by decide +kernel, rfl⟩
set_option maxRecDepth 100000 in
theorem d_M_shelf_34 : Dc m_M_shelf 34 (.getfield 44) 3 37 := ⟨by decide +kernel, rfl⟩
set_option maxRecDepth 100000 in
theorem d_M_shelf_37 : Dc m_M_shelf 37 (.iload_n 3) 1 38 := ⟨by decide +kernel, rfl⟩
set_option maxRecDepth 100000 in
theorem d_M_shelf_38 : Dc m_M_shelf 38 .iaload 1 39 := ⟨by decide +kernel, rfl⟩
set_option maxRecDepth 100000 in
theorem d_M_shelf_39 : Dj m_M_shelf 39 (.ifCond .ge) 42 46 := ⟨7, by decide +kernel, rfl, by decide⟩
set_option maxRecDepth 100000 in
theorem d_M_shelf_42 : Dc m_M_shelf 42 (.iconst (-1)) 1 43 := ⟨by decide +kernel, rfl⟩
set_option maxRecDepth 100000 in
theorem d_M_shelf_43 : Dj m_M_shelf 43 .goto 46 47 := ⟨4, by decide +kernel, rfl, by decide⟩
set_option maxRecDepth 100000 in
theorem d_M_shelf_46 : Dc m_M_shelf 46 (.iload_n 2) 1 47 := ⟨by decide +kernel, rfl⟩
set_option maxRecDepth 100000 in
theorem d_M_shelf_47 : Dc m_M_shelf 47 .iastore 1 48 := ⟨by decide +kernel, rfl⟩
set_option maxRecDepth 100000 in
theorem d_M_shelf_48 : Dc m_M_shelf 48 (.aload_n 0) 1 49 := ⟨by decide +kernel, rfl⟩
set_option maxRecDepth 100000 in
theorem d_M_shelf_49 : Dc m_M_shelf 49 (.getfield 57) 3 52 := ⟨by decide +kernel, rfl⟩
set_option maxRecDepth 100000 in
theorem d_M_shelf_52 : Dc m_M_shelf 52 (.iload_n 1) 1 53 := ⟨by decide +kernel, rfl⟩
set_option maxRecDepth 100000 in
theorem d_M_shelf_53 : Dc m_M_shelf 53 (.iload_n 2) 1 54 := ⟨by decide +kernel, rfl⟩
set_option maxRecDepth 100000 in
theorem d_M_shelf_54 : Dc m_M_shelf 54 (.iconst 1) 1 55 := ⟨by decide +kernel, rfl⟩
set_option maxRecDepth 100000 in
theorem d_M_shelf_55 : Dj m_M_shelf 55 (.if_icmp .ne) 58 67 := ⟨12, by decide +kernel, rfl, by decide⟩
set_option maxRecDepth 100000 in
theorem d_M_shelf_58 : Dc m_M_shelf 58 (.aload_n 0) 1 59 := ⟨by decide +kernel, rfl⟩
set_option maxRecDepth 100000 in
theorem d_M_shelf_59 : Dc m_M_shelf 59 (.getfield 44) 3 62 := ⟨by decide +kernel, rfl⟩
set_option maxRecDepth 100000 in
theorem d_M_shelf_62 : Dc m_M_shelf 62 (.iload_n 3) 1 63 := ⟨by decide +kernel, rfl⟩
set_option maxRecDepth 100000 in
theorem d_M_shelf_63 : Dc m_M_shelf 63 .iaload 1 64 := ⟨by decide +kernel, rfl⟩
set_option maxRecDepth 100000 in
theorem d_M_shelf_64 : Dj m_M_shelf 64 .goto 67 68 := ⟨4, by decide +kernel, rfl, by decide⟩
set_option maxRecDepth 100000 in
theorem d_M_shelf_67 : Dc m_M_shelf 67 (.iload_n 3) 1 68 := ⟨by decide +kernel, rfl⟩
set_option maxRecDepth 100000 in
theorem d_M_shelf_68 : Dc m_M_shelf 68 .iastore 1 69 := ⟨by decide +kernel, rfl⟩
set_option maxRecDepth 100000 in
theorem d_M_shelf_69 : Dc m_M_shelf 69 (.aload_n 0) 1 70 := ⟨by decide +kernel, rfl⟩
set_option maxRecDepth 100000 in
theorem d_M_shelf_70 : Dc m_M_shelf 70 (.getfield 60) 3 73 := ⟨by decide +kernel, rfl⟩
set_option maxRecDepth 100000 in
theorem d_M_shelf_73 : Dc m_M_shelf 73 (.iload_n 1) 1 74 := ⟨by decide +kernel, rfl⟩
set_option maxRecDepth 100000 in
theorem d_M_shelf_74 : Dc m_M_shelf 74 (.iload_n 2) 1 75 := ⟨by decide +kernel, rfl⟩
set_option maxRecDepth 100000 in
theorem d_M_shelf_75 : Dc m_M_shelf 75 (.iconst 1) 1 76 := ⟨by decide +kernel, rfl⟩
set_option maxRecDepth 100000 in
theorem d_M_shelf_76 : Dj m_M_shelf 76 (.if_icmp .ne) 79 88 := ⟨12, by decide +kernel, rfl, by decide⟩
set_option maxRecDepth 100000 in
theorem d_M_shelf_79 : Dc m_M_shelf 79 (.aload_n 0) 1 80 := ⟨by decide +kernel, rfl⟩
set_option maxRecDepth 100000 in
theorem d_M_shelf_80 : Dc m_M_shelf 80 (.getfield 47) 3 83 := ⟨by decide +kernel, rfl⟩
set_option maxRecDepth 100000 in
theorem d_M_shelf_83 : Dc m_M_shelf 83 (.iload_n 3) 1 84 := ⟨by decide +kernel, rfl⟩
set_option maxRecDepth 100000 in
theorem d_M_shelf_84 : Dc m_M_shelf 84 .iaload 1 85 := ⟨by decide +kernel, rfl⟩
set_option maxRecDepth 100000 in
theorem d_M_shelf_85 : Dj m_M_shelf 85 .goto 88 89 := ⟨4, by decide +kernel, rfl, by decide⟩
set_option maxRecDepth 100000 in
theorem d_M_shelf_88 : Dc m_M_shelf 88 (.iconst 0) 1 89 := ⟨by decide +kernel, rfl⟩
set_option maxRecDepth 100000 in
theorem d_M_shelf_89 : Dc m_M_shelf 89 .iastore 1 90 := ⟨by decide +kernel, rfl⟩
set_option maxRecDepth 100000 in
theorem d_M_shelf_90 : Dc m_M_shelf 90 (.iconst 1) 1 91 := ⟨by decide +kernel, rfl⟩
set_option maxRecDepth 100000 in
theorem d_M_shelf_91 : Dc m_M_shelf 91 .ireturn 1 92 := ⟨by decide +kernel, rfl⟩
set_option maxRecDepth 100000 in
theorem d_M_kindOn_0 : Dc m_M_kindOn 0 (.aload_n 0) 1 1 := ⟨by decide +kernel, rfl⟩
set_option maxRecDepth 100000 in
theorem d_M_kindOn_1 : Dc m_M_kindOn 1 (.getfield 54) 3 4 := ⟨by decide +kernel, rfl⟩
set_option maxRecDepth 100000 in
theorem d_M_kindOn_4 : Dc m_M_kindOn 4 (.iload_n 1) 1 5 := ⟨by decide +kernel, rfl⟩
set_option maxRecDepth 100000 in
theorem d_M_kindOn_5 : Dc m_M_kindOn 5 .iaload 1 6 := ⟨by decide +kernel, rfl⟩
set_option maxRecDepth 100000 in
theorem d_M_kindOn_6 : Dj m_M_kindOn 6 (.ifCond .eq) 9 25 := ⟨19, by decide +kernel, rfl, by decide⟩
set_option maxRecDepth 100000 in
theorem d_M_kindOn_9 : Dc m_M_kindOn 9 (.aload_n 0) 1 10 := ⟨by decide +kernel, rfl⟩
set_option maxRecDepth 100000 in
theorem d_M_kindOn_10 : Dc m_M_kindOn 10 (.getfield 54) 3 13 := ⟨by decide +kernel, rfl⟩
set_option maxRecDepth 100000 in
theorem d_M_kindOn_13 : Dc m_M_kindOn 13 (.iload_n 1) 1 14 := ⟨by decide +kernel, rfl⟩
set_option maxRecDepth 100000 in
theorem d_M_kindOn_14 : Dc m_M_kindOn 14 .iaload 1 15 := ⟨by decide +kernel, rfl⟩
set_option maxRecDepth 100000 in
theorem d_M_kindOn_15 : Dj m_M_kindOn 15 (.ifCond .ge) 18 22 := ⟨7, by decide +kernel, rfl, by decide⟩
set_option maxRecDepth 100000 in
theorem d_M_kindOn_18 : Dc m_M_kindOn 18 (.iconst (-1)) 1 19 := ⟨by decide +kernel, rfl⟩
set_option maxRecDepth 100000 in
theorem d_M_kindOn_19 : Dj m_M_kindOn 19 .goto 22 24 := ⟨5, by decide +kernel, rfl, by decide⟩
set_option maxRecDepth 100000 in
theorem d_M_kindOn_22 : Dc m_M_kindOn 22 (.bipush (9)) 2 24 := ⟨by decide +kernel, rfl⟩
set_option maxRecDepth 100000 in
theorem d_M_kindOn_24 : Dc m_M_kindOn 24 .ireturn 1 25 := ⟨by decide +kernel, rfl⟩
set_option maxRecDepth 100000 in
theorem d_M_kindOn_25 : Dc m_M_kindOn 25 (.aload_n 0) 1 26 := ⟨by decide +kernel, rfl⟩
set_option maxRecDepth 100000 in
theorem d_M_kindOn_26 : Dc m_M_kindOn 26 (.aload_n 0) 1 27 := ⟨by decide +kernel, rfl⟩
set_option maxRecDepth 100000 in
theorem d_M_kindOn_27 : Dc m_M_kindOn 27 (.getfield 57) 3 30 := ⟨by decide +kernel, rfl⟩
set_option maxRecDepth 100000 in
theorem d_M_kindOn_30 : Dc m_M_kindOn 30 (.iload_n 1) 1 31 := ⟨by decide +kernel, rfl⟩
set_option maxRecDepth 100000 in
theorem d_M_kindOn_31 : Dc m_M_kindOn 31 .iaload 1 32 := ⟨by decide +kernel, rfl⟩
set_option maxRecDepth 100000 in
theorem d_M_kindOn_32 : Dc m_M_kindOn 32 (.invokevirtual 115) 3 35 := ⟨by decide +kernel, rfl⟩
set_option maxRecDepth 100000 in
theorem d_M_kindOn_35 : Dj m_M_kindOn 35 (.ifCond .eq) 38 51 := ⟨16, by decide +kernel, rfl, by decide⟩
set_option maxRecDepth 100000 in
theorem d_M_kindOn_38 : Dc m_M_kindOn 38 (.aload_n 0) 1 39 := ⟨by decide +kernel, rfl⟩
set_option maxRecDepth 100000 in
theorem d_M_kindOn_39 : Dc m_M_kindOn 39 (.aload_n 0) 1 40 := ⟨by decide +kernel, rfl⟩
set_option maxRecDepth 100000 in
theorem d_M_kindOn_40 : Dc m_M_kindOn 40 (.getfield 57) 3 43 := ⟨by decide +kernel, rfl⟩
set_option maxRecDepth 100000 in
theorem d_M_kindOn_43 : Dc m_M_kindOn 43 (.iload_n 1) 1 44 := ⟨by decide +kernel, rfl⟩
set_option maxRecDepth 100000 in
theorem d_M_kindOn_44 : Dc m_M_kindOn 44 .iaload 1 45 := ⟨by decide +kernel, rfl⟩
set_option maxRecDepth 100000 in
theorem d_M_kindOn_45 : Dc m_M_kindOn 45 (.invokevirtual 118) 3 48 := ⟨by decide +kernel, rfl⟩
set_option maxRecDepth 100000 in
theorem d_M_kindOn_48 : Dj m_M_kindOn 48 .goto 51 52 := ⟨4, by decide +kernel, rfl, by decide⟩
set_option maxRecDepth 100000 in
theorem d_M_kindOn_51 : Dc m_M_kindOn 51 (.iconst (-1)) 1 52 := ⟨by decide +kernel, rfl⟩
set_option maxRecDepth 100000 in
theorem d_M_kindOn_52 : Dc m_M_kindOn 52 .ireturn 1 53 := ⟨by decide +kernel, rfl⟩
set_option maxRecDepth 100000 in
theorem d_M_isUnder_0 : Dc m_M_isUnder 0 (.iload_n 1) 1 1 := ⟨by decide +kernel, rfl⟩
set_option maxRecDepth 100000 in
theorem d_M_isUnder_1 : Dj m_M_isUnder 1 (.ifCond .eq) 4 29 := ⟨28, by decide +kernel, rfl, by decide⟩
set_option maxRecDepth 100000 in
theorem d_M_isUnder_4 : Dc m_M_isUnder 4 (.iload_n 1) 1 5 := ⟨by decide +kernel, rfl⟩
set_option maxRecDepth 100000 in
theorem d_M_isUnder_5 : Dc m_M_isUnder 5 (.iload_n 0) 1 6 := ⟨by decide +kernel, rfl⟩
set_option maxRecDepth 100000 in
theorem d_M_isUnder_6 : Dj m_M_isUnder 6 (.if_icmp .eq) 9 29 := ⟨23, by decide +kernel, rfl, by decide⟩
set_option maxRecDepth 100000 in
theorem d_M_isUnder_9 : Dc m_M_isUnder 9 (.iload_n 1) 1 10 := ⟨by decide +kernel, rfl⟩
set_option maxRecDepth 100000 in
theorem d_M_isUnder_10 : Dc m_M_isUnder 10 (.iconst 1) 1 11 := ⟨by decide +kernel, rfl⟩
set_option maxRecDepth 100000 in
theorem d_M_isUnder_11 : Dj m_M_isUnder 11 (.if_icmp .ne) 14 19 := ⟨8, by decide +kernel, rfl, by decide⟩
set_option maxRecDepth 100000 in
theorem d_M_isUnder_14 : Dc m_M_isUnder 14 (.iload_n 0) 1 15 := ⟨by decide +kernel, rfl⟩
set_option maxRecDepth 100000 in
theorem d_M_isUnder_15 : Dc m_M_isUnder 15 (.iconst 4) 1 16 := ⟨by decide +kernel, rfl⟩
set_option maxRecDepth 100000 in
theorem d_M_isUnder_16 : Dj m_M_isUnder 16 (.if_icmp .eq) 19 29 := ⟨13, by decide +kernel, rfl, by decide⟩
set_option maxRecDepth 100000 in
theorem d_M_isUnder_19 : Dc m_M_isUnder 19 (.iload_n 1) 1 20 := ⟨by decide +kernel, rfl⟩
set_option maxRecDepth 100000 in
theorem d_M_isUnder_20 : Dc m_M_isUnder 20 (.iconst 2) 1 21 := ⟨by decide +kernel, rfl⟩
set_option maxRecDepth 100000 in
theorem d_M_isUnder_21 : Dj m_M_isUnder 21 (.if_icmp .ne) 24 33 := ⟨12, by decide +kernel, rfl, by decide⟩
set_option maxRecDepth 100000 in
theorem d_M_isUnder_24 : Dc m_M_isUnder 24 (.iload_n 0) 1 25 := ⟨by decide +kernel, rfl⟩
set_option maxRecDepth 100000 in
theorem d_M_isUnder_25 : Dc m_M_isUnder 25 (.iconst 3) 1 26 := ⟨by decide +kernel, rfl⟩
set_option maxRecDepth 100000 in
theorem d_M_isUnder_26 : Dj m_M_isUnder 26 (.if_icmp .ne) 29 33 := ⟨7, by decide +kernel, rfl, by decide⟩
set_option maxRecDepth 100000 in
theorem d_M_isUnder_29 : Dc m_M_isUnder 29 (.iconst 1) 1 30 := ⟨by decide +kernel, rfl⟩
set_option maxRecDepth 100000 in
theorem d_M_isUnder_30 : Dj m_M_isUnder 30 .goto 33 34 := ⟨4, by decide +kernel, rfl, by decide⟩
set_option maxRecDepth 100000 in
theorem d_M_isUnder_33 : Dc m_M_isUnder 33 (.iconst 0) 1 34 := ⟨by decide +kernel, rfl⟩
set_option maxRecDepth 100000 in
theorem d_M_isUnder_34 : Dc m_M_isUnder 34 .ireturn 1 35 := ⟨by decide +kernel, rfl⟩
set_option maxRecDepth 100000 in
theorem d_M_taken_0 : Dc m_M_taken 0 (.iload_n 1) 1 1 := ⟨by decide +kernel, rfl⟩
set_option maxRecDepth 100000 in
theorem d_M_taken_1 : Dc m_M_taken 1 (.invokestatic 308) 3 4 := ⟨by decide +kernel, rfl⟩
set_option maxRecDepth 100000 in
theorem d_M_taken_4 : Dj m_M_taken 4 (.ifCond .eq) 7 27 := ⟨23, by decide +kernel, rfl, by decide⟩
set_option maxRecDepth 100000 in
theorem d_M_taken_7 : Dc m_M_taken 7 (.iload_n 2) 1 8 := ⟨by decide +kernel, rfl⟩
set_option maxRecDepth 100000 in
theorem d_M_taken_8 : Dc m_M_taken 8 (.iconst 0) 1 9 := ⟨by decide +kernel, rfl⟩
set_option maxRecDepth 100000 in
theorem d_M_taken_9 : Dc m_M_taken 9 (.iconst 5) 1 10 := ⟨by decide +kernel, rfl⟩
set_option maxRecDepth 100000 in
theorem d_M_taken_10 : Dc m_M_taken 10 (.invokestatic 72) 3 13 := ⟨by decide +kernel, rfl⟩
set_option maxRecDepth 100000 in
theorem d_M_taken_13 : Dj m_M_taken 13 (.ifCond .ne) 16 29 := ⟨16, by decide +kernel, rfl, by decide⟩
set_option maxRecDepth 100000 in
theorem d_M_taken_16 : Dc m_M_taken 16 (.iload_n 2) 1 17 := ⟨by decide +kernel, rfl⟩
set_option maxRecDepth 100000 in
theorem d_M_taken_17 : Dc m_M_taken 17 (.bipush (10)) 2 19 := ⟨by decide +kernel, rfl⟩
set_option maxRecDepth 100000 in
theorem d_M_taken_19 : Dc m_M_taken 19 (.bipush (13)) 2 21 := ⟨by decide +kernel, rfl⟩
set_option maxRecDepth 100000 in
theorem d_M_taken_21 : Dc m_M_taken 21 (.invokestatic 72) 3 24 := ⟨by decide +kernel, rfl⟩
set_option maxRecDepth 100000 in
theorem d_M_taken_24 : Dj m_M_taken 24 (.ifCond .ne) 27 29 := ⟨5, by decide +kernel, rfl, by decide⟩
set_option maxRecDepth 100000 in
theorem d_M_taken_27 : Dc m_M_taken 27 (.iconst (-1)) 1 28 := ⟨by decide +kernel, rfl⟩
set_option maxRecDepth 100000 in
theorem d_M_taken_28 : Dc m_M_taken 28 .ireturn 1 29 := ⟨by decide +kernel, rfl⟩
set_option maxRecDepth 100000 in
theorem d_M_taken_29 : Dc m_M_taken 29 (.aload_n 0) 1 30 := ⟨by decide +kernel, rfl⟩
set_option maxRecDepth 100000 in
theorem d_M_taken_30 : Dc m_M_taken 30 (.iload_n 1) 1 31 := ⟨by decide +kernel, rfl⟩
set_option maxRecDepth 100000 in
theorem d_M_taken_31 : Dc m_M_taken 31 (.invokevirtual 317) 3 34 := ⟨by decide +kernel, rfl⟩
set_option maxRecDepth 100000 in
theorem d_M_taken_34 : Dc m_M_taken 34 (.istore_n 3) 1 35 := ⟨by decide +kernel, rfl⟩
set_option maxRecDepth 100000 in
theorem d_M_taken_35 : Dc m_M_taken 35 (.iload_n 3) 1 36 := ⟨by decide +kernel, rfl⟩
set_option maxRecDepth 100000 in
theorem d_M_taken_36 : Dj m_M_taken 36 (.ifCond .ge) 39 42 := ⟨6, by decide +kernel, rfl, by decide⟩
set_option maxRecDepth 100000 in
theorem d_M_taken_39 : Dc m_M_taken 39 (.bipush (-11)) 2 41 := ⟨by decide +kernel, rfl⟩
set_option maxRecDepth 100000 in
theorem d_M_taken_41 : Dc m_M_taken 41 .ireturn 1 42 := ⟨by decide +kernel, rfl⟩
set_option maxRecDepth 100000 in
theorem d_M_taken_42 : Dc m_M_taken 42 (.iload_n 3) 1 43 := ⟨by decide +kernel, rfl⟩
set_option maxRecDepth 100000 in
theorem d_M_taken_43 : Dc m_M_taken 43 (.bipush (9)) 2 45 := ⟨by decide +kernel, rfl⟩
set_option maxRecDepth 100000 in
theorem d_M_taken_45 : Dj m_M_taken 45 (.if_icmp .ne) 48 73 := ⟨28, by decide +kernel, rfl, by decide⟩
set_option maxRecDepth 100000 in
theorem d_M_taken_48 : Dc m_M_taken 48 (.iload_n 2) 1 49 := ⟨by decide +kernel, rfl⟩
set_option maxRecDepth 100000 in
theorem d_M_taken_49 : Dc m_M_taken 49 (.bipush (10)) 2 51 := ⟨by decide +kernel, rfl⟩
set_option maxRecDepth 100000 in
theorem d_M_taken_51 : Dc m_M_taken 51 (.aload_n 0) 1 52 := ⟨by decide +kernel, rfl⟩
set_option maxRecDepth 100000 in
theorem d_M_taken_52 : Dc m_M_taken 52 (.getfield 57) 3 55 := ⟨by decide +kernel, rfl⟩
set_option maxRecDepth 100000 in
theorem d_M_taken_55 : Dc m_M_taken 55 (.iload_n 1) 1 56 := ⟨by decide +kernel, rfl⟩
set_option maxRecDepth 100000 in
theorem d_M_taken_56 : Dc m_M_taken 56 .iaload 1 57 := ⟨by decide +kernel, rfl⟩
set_option maxRecDepth 100000 in
theorem d_M_taken_57 : Dc m_M_taken 57 .iadd 1 58 := ⟨by decide +kernel, rfl⟩
set_option maxRecDepth 100000 in
theorem d_M_taken_58 : Dj m_M_taken 58 (.if_icmp .ne) 61 70 := ⟨12, by decide +kernel, rfl, by decide⟩
set_option maxRecDepth 100000 in
theorem d_M_taken_61 : Dc m_M_taken 61 (.aload_n 0) 1 62 := ⟨by decide +kernel, rfl⟩
set_option maxRecDepth 100000 in
theorem d_M_taken_62 : Dc m_M_taken 62 (.getfield 60) 3 65 := ⟨by decide +kernel, rfl⟩
set_option maxRecDepth 100000 in
theorem d_M_taken_65 : Dc m_M_taken 65 (.iload_n 1) 1 66 := ⟨by decide +kernel, rfl⟩
set_option maxRecDepth 100000 in
theorem d_M_taken_66 : Dc m_M_taken 66 .iaload 1 67 := ⟨by decide +kernel, rfl⟩
set_option maxRecDepth 100000 in
theorem d_M_taken_67 : Dj m_M_taken 67 .goto 70 72 := ⟨5, by decide +kernel, rfl, by decide⟩
set_option maxRecDepth 100000 in
theorem d_M_taken_70 : Dc m_M_taken 70 (.bipush (-13)) 2 72 := ⟨by decide +kernel, rfl⟩
set_option maxRecDepth 100000 in
theorem d_M_taken_72 : Dc m_M_taken 72 .ireturn 1 73 := ⟨by decide +kernel, rfl⟩
set_option maxRecDepth 100000 in
theorem d_M_taken_73 : Dc m_M_taken 73 (.iload_n 2) 1 74 := ⟨by decide +kernel, rfl⟩
set_option maxRecDepth 100000 in
theorem d_M_taken_74 : Dc m_M_taken 74 (.bipush (10)) 2 76 := ⟨by decide +kernel, rfl⟩
set_option maxRecDepth 100000 in
theorem d_M_taken_76 : Dj m_M_taken 76 (.if_icmp .ge) 79 96 := ⟨20, by decide +kernel, rfl, by decide⟩
set_option maxRecDepth 100000 in
theorem d_M_taken_79 : Dc m_M_taken 79 (.iload_n 3) 1 80 := ⟨by decide +kernel, rfl⟩
set_option maxRecDepth 100000 in
theorem d_M_taken_80 : Dc m_M_taken 80 (.iload_n 2) 1 81 := ⟨by decide +kernel, rfl⟩
set_option maxRecDepth 100000 in
theorem d_M_taken_81 : Dc m_M_taken 81 (.invokestatic 320) 3 84 := ⟨by decide +kernel, rfl⟩
set_option maxRecDepth 100000 in
theorem d_M_taken_84 : Dj m_M_taken 84 (.ifCond .eq) 87 96 := ⟨12, by decide +kernel, rfl, by decide⟩
set_option maxRecDepth 100000 in
theorem d_M_taken_87 : Dc m_M_taken 87 (.aload_n 0) 1 88 := ⟨by decide +kernel, rfl⟩
set_option maxRecDepth 100000 in
theorem d_M_taken_88 : Dc m_M_taken 88 (.getfield 57) 3 91 := ⟨by decide +kernel, rfl⟩
set_option maxRecDepth 100000 in
theorem d_M_taken_91 : Dc m_M_taken 91 (.iload_n 1) 1 92 := ⟨by decide +kernel, rfl⟩
set_option maxRecDepth 100000 in
theorem d_M_taken_92 : Dc m_M_taken 92 .iaload 1 93 := ⟨by decide +kernel, rfl⟩
set_option maxRecDepth 100000 in
theorem d_M_taken_93 : Dj m_M_taken 93 .goto 96 98 := ⟨5, by decide +kernel, rfl, by decide⟩
set_option maxRecDepth 100000 in
theorem d_M_taken_96 : Dc m_M_taken 96 (.bipush (-13)) 2 98 := ⟨by decide +kernel, rfl⟩
set_option maxRecDepth 100000 in
theorem d_M_taken_98 : Dc m_M_taken 98 .ireturn 1 99 := ⟨by decide +kernel, rfl⟩
set_option maxRecDepth 100000 in
theorem d_M_ran_0 : Dc m_M_ran 0 (.aload_n 0) 1 1 := ⟨by decide +kernel, rfl⟩
set_option maxRecDepth 100000 in
theorem d_M_ran_1 : Dc m_M_ran 1 (.getfield 323) 3 4 := ⟨by decide +kernel, rfl⟩
set_option maxRecDepth 100000 in
theorem d_M_ran_4 : Dc m_M_ran 4 (.bipush (30)) 2 6 := ⟨by decide +kernel, rfl⟩
set_option maxRecDepth 100000 in
theorem d_M_ran_6 : Dj m_M_ran 6 (.if_icmp .ge) 9 29 := ⟨23, by decide +kernel, rfl, by decide⟩
set_option maxRecDepth 100000 in
theorem d_M_ran_9 : Dc m_M_ran 9 (.aload_n 0) 1 10 := ⟨by decide +kernel, rfl⟩
set_option maxRecDepth 100000 in
theorem d_M_ran_10 : Dc m_M_ran 10 (.getfield 63) 3 13 := ⟨by decide +kernel, rfl⟩
set_option maxRecDepth 100000 in
theorem d_M_ran_13 : Dc m_M_ran 13 (.aload_n 0) 1 14 := ⟨by decide +kernel, rfl⟩
set_option maxRecDepth 100000 in
theorem d_M_ran_14 : Dc m_M_ran 14 (.getfield 323) 3 17 := ⟨by decide +kernel, rfl⟩
set_option maxRecDepth 100000 in
theorem d_M_ran_17 : Dc m_M_ran 17 (.iload_n 1) 1 18 := ⟨by decide +kernel, rfl⟩
set_option maxRecDepth 100000 in
theorem d_M_ran_18 : Dc m_M_ran 18 .iastore 1 19 := ⟨by decide +kernel, rfl⟩
set_option maxRecDepth 100000 in
theorem d_M_ran_19 : Dc m_M_ran 19 (.aload_n 0) 1 20 := ⟨by decide +kernel, rfl⟩
set_option maxRecDepth 100000 in
theorem d_M_ran_20 : Dc m_M_ran 20 .dup 1 21 := ⟨by decide +kernel, rfl⟩
set_option maxRecDepth 100000 in
theorem d_M_ran_21 : Dc m_M_ran 21 (.getfield 323) 3 24 := ⟨by decide +kernel, rfl⟩
set_option maxRecDepth 100000 in
theorem d_M_ran_24 : Dc m_M_ran 24 (.iconst 1) 1 25 := ⟨by decide +kernel, rfl⟩
set_option maxRecDepth 100000 in
theorem d_M_ran_25 : Dc m_M_ran 25 .iadd 1 26 := ⟨by decide +kernel, rfl⟩
set_option maxRecDepth 100000 in
theorem d_M_ran_26 : Dc m_M_ran 26 (.putfield 323) 3 29 := ⟨by decide +kernel, rfl⟩
set_option maxRecDepth 100000 in
theorem d_M_ran_29 : Dc m_M_ran 29 .return_ 1 30 := ⟨by decide +kernel, rfl⟩
set_option maxRecDepth 100000 in
theorem d_M_plainSays_0 : Dc m_M_plainSays 0 (.aload_n 0) 1 1 := ⟨by decide +kernel, rfl⟩
set_option maxRecDepth 100000 in
theorem d_M_plainSays_1 : Dc m_M_plainSays 1 (.bipush (10)) 2 3 := ⟨by decide +kernel, rfl⟩
set_option maxRecDepth 100000 in
theorem d_M_plainSays_3 : Dc m_M_plainSays 3 (.invokevirtual 326) 3 6 := ⟨by decide +kernel, rfl⟩
set_option maxRecDepth 100000 in
theorem d_M_plainSays_6 : Dc m_M_plainSays 6 (.iload_n 1) 1 7 := ⟨by decide +kernel, rfl⟩
set_option maxRecDepth 100000 in
theorem d_M_plainSays_7 : Dc m_M_plainSays 7 (.aload_n 0) 1 8 := ⟨by decide +kernel, rfl⟩
set_option maxRecDepth 100000 in
theorem d_M_plainSays_8 : Dc m_M_plainSays 8 (.getfield 329) 3 11 := ⟨by decide +kernel, rfl⟩
set_option maxRecDepth 100000 in
theorem d_M_plainSays_11 : Dc m_M_plainSays 11 .iadd 1 12 := ⟨by decide +kernel, rfl⟩
set_option maxRecDepth 100000 in
theorem d_M_plainSays_12 : Dc m_M_plainSays 12 .ireturn 1 13 := ⟨by decide +kernel, rfl⟩
set_option maxRecDepth 100000 in
theorem d_M_parrotSays_0 : Dc m_M_parrotSays 0 (.aload_n 0) 1 1 := ⟨by decide +kernel, rfl⟩
set_option maxRecDepth 100000 in
theorem d_M_parrotSays_1 : Dc m_M_parrotSays 1 (.bipush (30)) 2 3 := ⟨by decide +kernel, rfl⟩
set_option maxRecDepth 100000 in
theorem d_M_parrotSays_3 : Dc m_M_parrotSays 3 (.invokevirtual 326) 3 6 := ⟨by decide +kernel, rfl⟩
set_option maxRecDepth 100000 in
theorem d_M_parrotSays_6 : Dc m_M_parrotSays 6 (.aload_n 0) 1 7 := ⟨by decide +kernel, rfl⟩
set_option maxRecDepth 100000 in
theorem d_M_parrotSays_7 : Dc m_M_parrotSays 7 (.iload_n 1) 1 8 := ⟨by decide +kernel, rfl⟩
set_option maxRecDepth 100000 in
theorem d_M_parrotSays_8 : Dc m_M_parrotSays 8 (.invokevirtual 332) 3 11 := ⟨by decide +kernel, rfl⟩
set_option maxRecDepth 100000 in
theorem d_M_parrotSays_11 : Dc m_M_parrotSays 11 (.iconst 3) 1 12 := ⟨by decide +kernel, rfl⟩
set_option maxRecDepth 100000 in
theorem d_M_parrotSays_12 : Dc m_M_parrotSays 12 .imul 1 13 := ⟨by decide +kernel, rfl⟩
set_option maxRecDepth 100000 in
theorem d_M_parrotSays_13 : Dc m_M_parrotSays 13 .ireturn 1 14 := ⟨by decide +kernel, rfl⟩
set_option maxRecDepth 100000 in
theorem d_M_saysIt_0 : Dc m_M_saysIt 0 (.aload_n 0) 1 1 := ⟨by decide +kernel, rfl⟩
set_option maxRecDepth 100000 in
theorem d_M_saysIt_1 : Dc m_M_saysIt 1 (.getfield 335) 3 4 := ⟨by decide +kernel, rfl⟩
set_option maxRecDepth 100000 in
theorem d_M_saysIt_4 : Ts m_M_saysIt 4 [(2, 32), (3, 38), (4, 52)] 69 := ⟨65, 2, 4, [28, 34, 48], 28, by decide +kernel, by decide, by decide +kernel⟩
set_option maxRecDepth 100000 in
theorem d_M_saysIt_32 : Dc m_M_saysIt 32 (.aload_n 0) 1 33 := ⟨by decide +kernel, rfl⟩
set_option maxRecDepth 100000 in
theorem d_M_saysIt_33 : Dc m_M_saysIt 33 (.iload_n 1) 1 34 := ⟨by decide +kernel, rfl⟩
set_option maxRecDepth 100000 in
theorem d_M_saysIt_34 : Dc m_M_saysIt 34 (.invokevirtual 338) 3 37 := ⟨by decide +kernel, rfl⟩
set_option maxRecDepth 100000 in
theorem d_M_saysIt_37 : Dc m_M_saysIt 37 .ireturn 1 38 := ⟨by decide +kernel, rfl⟩
set_option maxRecDepth 100000 in
theorem d_M_saysIt_38 : Dc m_M_saysIt 38 (.aload_n 0) 1 39 := ⟨by decide +kernel, rfl⟩
set_option maxRecDepth 100000 in
theorem d_M_saysIt_39 : Dc m_M_saysIt 39 (.bipush (40)) 2 41 := ⟨by decide +kernel, rfl⟩
set_option maxRecDepth 100000 in
theorem d_M_saysIt_41 : Dc m_M_saysIt 41 (.invokevirtual 326) 3 44 := ⟨by decide +kernel, rfl⟩
set_option maxRecDepth 100000 in
theorem d_M_saysIt_44 : Dc m_M_saysIt 44 (.iconst 0) 1 45 := ⟨by decide +kernel, rfl⟩
set_option maxRecDepth 100000 in
theorem d_M_saysIt_45 : Dc m_M_saysIt 45 (.aload_n 0) 1 46 := ⟨by decide +kernel, rfl⟩
set_option maxRecDepth 100000 in
theorem d_M_saysIt_46 : Dc m_M_saysIt 46 (.iload_n 1) 1 47 := ⟨by decide +kernel, rfl⟩
set_option maxRecDepth 100000 in
theorem d_M_saysIt_47 : Dc m_M_saysIt 47 (.invokevirtual 338) 3 50 := ⟨by decide +kernel, rfl⟩
set_option maxRecDepth 100000 in
theorem d_M_saysIt_50 : Dc m_M_saysIt 50 .isub 1 51 := ⟨by decide +kernel, rfl⟩
set_option maxRecDepth 100000 in
theorem d_M_saysIt_51 : Dc m_M_saysIt 51 .ireturn 1 52 := ⟨by decide +kernel, rfl⟩
set_option maxRecDepth 100000 in
theorem d_M_saysIt_52 : Dc m_M_saysIt 52 (.aload_n 0) 1 53 := ⟨by decide +kernel, rfl⟩
set_option maxRecDepth 100000 in
theorem d_M_saysIt_53 : Dc m_M_saysIt 53 (.bipush (51)) 2 55 := ⟨by decide +kernel, rfl⟩
set_option maxRecDepth 100000 in
theorem d_M_saysIt_55 : Dc m_M_saysIt 55 (.invokevirtual 326) 3 58 := ⟨by decide +kernel, rfl⟩
set_option maxRecDepth 100000 in
theorem d_M_saysIt_58 : Dc m_M_saysIt 58 (.aload_n 0) 1 59 := ⟨by decide +kernel, rfl⟩
set_option maxRecDepth 100000 in
theorem d_M_saysIt_59 : Dc m_M_saysIt 59 (.iload_n 1) 1 60 := ⟨by decide +kernel, rfl⟩
set_option maxRecDepth 100000 in
theorem d_M_saysIt_60 : Dc m_M_saysIt 60 (.invokevirtual 332) 3 63 := ⟨by decide +kernel, rfl⟩
set_option maxRecDepth 100000 in
theorem d_M_saysIt_63 : Dc m_M_saysIt 63 (.aload_n 0) 1 64 := ⟨by decide +kernel, rfl⟩
set_option maxRecDepth 100000 in
theorem d_M_saysIt_64 : Dc m_M_saysIt 64 (.getfield 329) 3 67 := ⟨by decide +kernel, rfl⟩
set_option maxRecDepth 100000 in
theorem d_M_saysIt_67 : Dc m_M_saysIt 67 .isub 1 68 := ⟨by decide +kernel, rfl⟩
set_option maxRecDepth 100000 in
theorem d_M_saysIt_68 : Dc m_M_saysIt 68 .ireturn 1 69 := ⟨by decide +kernel, rfl⟩
set_option maxRecDepth 100000 in
theorem d_M_saysIt_69 : Dc m_M_saysIt 69 (.aload_n 0) 1 70 := ⟨by decide +kernel, rfl⟩
set_option maxRecDepth 100000 in
theorem d_M_saysIt_70 : Dc m_M_saysIt 70 (.iload_n 1) 1 71 := ⟨by decide +kernel, rfl⟩
set_option maxRecDepth 100000 in
theorem d_M_saysIt_71 : Dc m_M_saysIt 71 (.invokevirtual 332) 3 74 := ⟨by decide +kernel, rfl⟩
set_option maxRecDepth 100000 in
theorem d_M_saysIt_74 : Dc m_M_saysIt 74 .ireturn 1 75 := ⟨by decide +kernel, rfl⟩
set_option maxRecDepth 100000 in
theorem d_M_plainLearns_0 : Dc m_M_plainLearns 0 (.aload_n 0) 1 1 := ⟨by decide +kernel, rfl⟩
set_option maxRecDepth 100000 in
theorem d_M_plainLearns_1 : Dc m_M_plainLearns 1 (.bipush (11)) 2 3 := ⟨by decide +kernel, rfl⟩
set_option maxRecDepth 100000 in
theorem d_M_plainLearns_3 : Dc m_M_plainLearns 3 (.invokevirtual 326) 3 6 := ⟨by decide +kernel, rfl⟩
set_option maxRecDepth 100000 in
theorem d_M_plainLearns_6 : Dc m_M_plainLearns 6 (.aload_n 0) 1 7 := ⟨by decide +kernel, rfl⟩
set_option maxRecDepth 100000 in
theorem d_M_plainLearns_7 : Dc m_M_plainLearns 7 (.iload_n 1) 1 8 := ⟨by decide +kernel, rfl⟩
set_option maxRecDepth 100000 in
theorem d_M_plainLearns_8 : Dc m_M_plainLearns 8 (.invokevirtual 341) 3 11 := ⟨by decide +kernel, rfl⟩
set_option maxRecDepth 100000 in
theorem d_M_plainLearns_11 : Dc m_M_plainLearns 11 (.iconst 2) 1 12 := ⟨by decide +kernel, rfl⟩
set_option maxRecDepth 100000 in
theorem d_M_plainLearns_12 : Dc m_M_plainLearns 12 .imul 1 13 := ⟨by decide +kernel, rfl⟩
set_option maxRecDepth 100000 in
theorem d_M_plainLearns_13 : Dc m_M_plainLearns 13 .ireturn 1 14 := ⟨by decide +kernel, rfl⟩
set_option maxRecDepth 100000 in
theorem d_M_learnsIt_0 : Dc m_M_learnsIt 0 (.aload_n 0) 1 1 := ⟨by decide +kernel, rfl⟩
set_option maxRecDepth 100000 in
theorem d_M_learnsIt_1 : Dc m_M_learnsIt 1 (.getfield 335) 3 4 := ⟨by decide +kernel, rfl⟩
set_option maxRecDepth 100000 in
theorem d_M_learnsIt_4 : Dc m_M_learnsIt 4 (.iconst 1) 1 5 := ⟨by decide +kernel, rfl⟩
set_option maxRecDepth 100000 in
theorem d_M_learnsIt_5 : Dj m_M_learnsIt 5 (.if_icmp .eq) 8 16 := ⟨11, by decide +kernel, rfl, by decide⟩
set_option maxRecDepth 100000 in
theorem d_M_learnsIt_8 : Dc m_M_learnsIt 8 (.aload_n 0) 1 9 := ⟨by decide +kernel, rfl⟩
set_option maxRecDepth 100000 in
theorem d_M_learnsIt_9 : Dc m_M_learnsIt 9 (.getfield 335) 3 12 := ⟨by decide +kernel, rfl⟩
set_option maxRecDepth 100000 in
theorem d_M_learnsIt_12 : Dc m_M_learnsIt 12 (.iconst 4) 1 13 := ⟨by decide +kernel, rfl⟩
set_option maxRecDepth 100000 in
theorem d_M_learnsIt_13 : Dj m_M_learnsIt 13 (.if_icmp .ne) 16 33 := ⟨20, by decide +kernel, rfl, by decide⟩
set_option maxRecDepth 100000 in
theorem d_M_learnsIt_16 : Dc m_M_learnsIt 16 (.aload_n 0) 1 17 := ⟨by decide +kernel, rfl⟩
set_option maxRecDepth 100000 in
theorem d_M_learnsIt_17 : Dc m_M_learnsIt 17 (.bipush (20)) 2 19 := ⟨by decide +kernel, rfl⟩
set_option maxRecDepth 100000 in
theorem d_M_learnsIt_19 : Dc m_M_learnsIt 19 (.invokevirtual 326) 3 22 := ⟨by decide +kernel, rfl⟩
set_option maxRecDepth 100000 in
theorem d_M_learnsIt_22 : Dc m_M_learnsIt 22 (.aload_n 0) 1 23 := ⟨by decide +kernel, rfl⟩
set_option maxRecDepth 100000 in
theorem d_M_learnsIt_23 : Dc m_M_learnsIt 23 (.iload_n 1) 1 24 := ⟨by decide +kernel, rfl⟩
set_option maxRecDepth 100000 in
theorem d_M_learnsIt_24 : Dc m_M_learnsIt 24 (.invokevirtual 344) 3 27 := ⟨by decide +kernel, rfl⟩
set_option maxRecDepth 100000 in
theorem d_M_learnsIt_27 : Dc m_M_learnsIt 27 (.aload_n 0) 1 28 := ⟨by decide +kernel, rfl⟩
set_option maxRecDepth 100000 in
theorem d_M_learnsIt_28 : Dc m_M_learnsIt 28 (.getfield 347) 3 31 := ⟨by decide +kernel, rfl⟩
set_option maxRecDepth 100000 in
theorem d_M_learnsIt_31 : Dc m_M_learnsIt 31 .isub 1 32 := ⟨by decide +kernel, rfl⟩
set_option maxRecDepth 100000 in
theorem d_M_learnsIt_32 : Dc m_M_learnsIt 32 .ireturn 1 33 := ⟨by decide +kernel, rfl⟩
set_option maxRecDepth 100000 in
theorem d_M_learnsIt_33 : Dc m_M_learnsIt 33 (.aload_n 0) 1 34 := ⟨by decide +kernel, rfl⟩
set_option maxRecDepth 100000 in
theorem d_M_learnsIt_34 : Dc m_M_learnsIt 34 (.getfield 335) 3 37 := ⟨by decide +kernel, rfl⟩
set_option maxRecDepth 100000 in
theorem d_M_learnsIt_37 : Dc m_M_learnsIt 37 (.iconst 3) 1 38 := ⟨by decide +kernel, rfl⟩
set_option maxRecDepth 100000 in
theorem d_M_learnsIt_38 : Dj m_M_learnsIt 38 (.if_icmp .ne) 41 64 := ⟨26, by decide +kernel, rfl, by decide⟩
set_option maxRecDepth 100000 in
theorem d_M_learnsIt_41 : Dc m_M_learnsIt 41 (.aload_n 0) 1 42 := ⟨by decide +kernel, rfl⟩
set_option maxRecDepth 100000 in
theorem d_M_learnsIt_42 : Dc m_M_learnsIt 42 (.bipush (41)) 2 44 := ⟨by decide +kernel, rfl⟩
set_option maxRecDepth 100000 in
theorem d_M_learnsIt_44 : Dc m_M_learnsIt 44 (.invokevirtual 326) 3 47 := ⟨by decide +kernel, rfl⟩
set_option maxRecDepth 100000 in
theorem d_M_learnsIt_47 : Dc m_M_learnsIt 47 (.aload_n 0) 1 48 := ⟨by decide +kernel, rfl⟩
set_option maxRecDepth 100000 in
theorem d_M_learnsIt_48 : Dc m_M_learnsIt 48 (.iload_n 1) 1 49 := ⟨by decide +kernel, rfl⟩
set_option maxRecDepth 100000 in
theorem d_M_learnsIt_49 : Dc m_M_learnsIt 49 (.invokevirtual 344) 3 52 := ⟨by decide +kernel, rfl⟩
set_option maxRecDepth 100000 in
theorem d_M_learnsIt_52 : Dc m_M_learnsIt 52 (.istore_n 2) 1 53 := ⟨by decide +kernel, rfl⟩
set_option maxRecDepth 100000 in
theorem d_M_learnsIt_53 : Dc m_M_learnsIt 53 (.iload_n 2) 1 54 := ⟨by decide +kernel, rfl⟩
set_option maxRecDepth 100000 in
theorem d_M_learnsIt_54 : Dc m_M_learnsIt 54 (.aload_n 0) 1 55 := ⟨by decide +kernel, rfl⟩
set_option maxRecDepth 100000 in
theorem d_M_learnsIt_55 : Dc m_M_learnsIt 55 (.aload_n 0) 1 56 := ⟨by decide +kernel, rfl⟩
set_option maxRecDepth 100000 in
theorem d_M_learnsIt_56 : Dc m_M_learnsIt 56 (.getfield 329) 3 59 := ⟨by decide +kernel, rfl⟩
set_option maxRecDepth 100000 in
theorem d_M_learnsIt_59 : Dc m_M_learnsIt 59 (.invokevirtual 341) 3 62 := ⟨by decide +kernel, rfl⟩
set_option maxRecDepth 100000 in
theorem d_M_learnsIt_62 : Dc m_M_learnsIt 62 .iadd 1 63 := ⟨by decide +kernel, rfl⟩
set_option maxRecDepth 100000 in
theorem d_M_learnsIt_63 : Dc m_M_learnsIt 63 .ireturn 1 64 := ⟨by decide +kernel, rfl⟩
set_option maxRecDepth 100000 in
theorem d_M_learnsIt_64 : Dc m_M_learnsIt 64 (.aload_n 0) 1 65 := ⟨by decide +kernel, rfl⟩
set_option maxRecDepth 100000 in
theorem d_M_learnsIt_65 : Dc m_M_learnsIt 65 (.iload_n 1) 1 66 := ⟨by decide +kernel, rfl⟩
set_option maxRecDepth 100000 in
theorem d_M_learnsIt_66 : Dc m_M_learnsIt 66 (.invokevirtual 344) 3 69 := ⟨by decide +kernel, rfl⟩
set_option maxRecDepth 100000 in
theorem d_M_learnsIt_69 : Dc m_M_learnsIt 69 .ireturn 1 70 := ⟨by decide +kernel, rfl⟩
set_option maxRecDepth 100000 in
theorem d_M_plainShares_0 : Dc m_M_plainShares 0 (.aload_n 0) 1 1 := ⟨by decide +kernel, rfl⟩
set_option maxRecDepth 100000 in
theorem d_M_plainShares_1 : Dc m_M_plainShares 1 (.bipush (12)) 2 3 := ⟨by decide +kernel, rfl⟩
set_option maxRecDepth 100000 in
theorem d_M_plainShares_3 : Dc m_M_plainShares 3 (.invokevirtual 326) 3 6 := ⟨by decide +kernel, rfl⟩
set_option maxRecDepth 100000 in
theorem d_M_plainShares_6 : Dc m_M_plainShares 6 (.aload_n 0) 1 7 := ⟨by decide +kernel, rfl⟩
set_option maxRecDepth 100000 in
theorem d_M_plainShares_7 : Dc m_M_plainShares 7 (.getfield 347) 3 10 := ⟨by decide +kernel, rfl⟩
set_option maxRecDepth 100000 in
theorem d_M_plainShares_10 : Dc m_M_plainShares 10 (.aload_n 0) 1 11 := ⟨by decide +kernel, rfl⟩
set_option maxRecDepth 100000 in
theorem d_M_plainShares_11 : Dc m_M_plainShares 11 (.getfield 329) 3 14 := ⟨by decide +kernel, rfl⟩
set_option maxRecDepth 100000 in
theorem d_M_plainShares_14 : Dj m_M_plainShares 14 (.if_icmp .ne) 17 24 := ⟨10, by decide +kernel, rfl, by decide⟩
set_option maxRecDepth 100000 in
theorem d_M_plainShares_17 : Dc m_M_plainShares 17 (.aload_n 0) 1 18 := ⟨by decide +kernel, rfl⟩
set_option maxRecDepth 100000 in
theorem d_M_plainShares_18 : Dc m_M_plainShares 18 (.iconst 1) 1 19 := ⟨by decide +kernel, rfl⟩
set_option maxRecDepth 100000 in
theorem d_M_plainShares_19 : Dc m_M_plainShares 19 (.putfield 350) 3 22 := ⟨by decide +kernel, rfl⟩
set_option maxRecDepth 100000 in
theorem d_M_plainShares_22 : Dc m_M_plainShares 22 (.iconst 0) 1 23 := ⟨by decide +kernel, rfl⟩
set_option maxRecDepth 100000 in
theorem d_M_plainShares_23 : Dc m_M_plainShares 23 .ireturn 1 24 := ⟨by decide +kernel, rfl⟩
set_option maxRecDepth 100000 in
theorem d_M_plainShares_24 : Dc m_M_plainShares 24 (.iload_n 1) 1 25 := ⟨by decide +kernel, rfl⟩
set_option maxRecDepth 100000 in
theorem d_M_plainShares_25 : Dc m_M_plainShares 25 (.aload_n 0) 1 26 := ⟨by decide +kernel, rfl⟩
set_option maxRecDepth 100000 in
theorem d_M_plainShares_26 : Dc m_M_plainShares 26 (.getfield 347) 3 29 := ⟨by decide +kernel, rfl⟩
set_option maxRecDepth 100000 in
theorem d_M_plainShares_29 : Dc m_M_plainShares 29 (.aload_n 0) 1 30 := ⟨by decide +kernel, rfl⟩
set_option maxRecDepth 100000 in
theorem d_M_plainShares_30 : Dc m_M_plainShares 30 (.getfield 329) 3 33 := ⟨by decide +kernel, rfl⟩
set_option maxRecDepth 100000 in
theorem d_M_plainShares_33 : Dc m_M_plainShares 33 .isub 1 34 := ⟨by decide +kernel, rfl⟩
set_option maxRecDepth 100000 in
theorem d_M_plainShares_34 : Dc m_M_plainShares 34 .idiv 1 35 := ⟨by decide +kernel, rfl⟩
set_option maxRecDepth 100000 in
theorem d_M_plainShares_35 : Dc m_M_plainShares 35 .ireturn 1 36 := ⟨by decide +kernel, rfl⟩
set_option maxRecDepth 100000 in
theorem d_M_sharesIt_0 : Dc m_M_sharesIt 0 (.aload_n 0) 1 1 := ⟨by decide +kernel, rfl⟩
set_option maxRecDepth 100000 in
theorem d_M_sharesIt_1 : Dc m_M_sharesIt 1 (.getfield 335) 3 4 := ⟨by decide +kernel, rfl⟩
set_option maxRecDepth 100000 in
theorem d_M_sharesIt_4 : Dc m_M_sharesIt 4 (.iconst 4) 1 5 := ⟨by decide +kernel, rfl⟩
set_option maxRecDepth 100000 in
theorem d_M_sharesIt_5 : Dj m_M_sharesIt 5 (.if_icmp .ne) 8 24 := ⟨19, by decide +kernel, rfl, by decide⟩
set_option maxRecDepth 100000 in
theorem d_M_sharesIt_8 : Dc m_M_sharesIt 8 (.aload_n 0) 1 9 := ⟨by decide +kernel, rfl⟩
set_option maxRecDepth 100000 in
theorem d_M_sharesIt_9 : Dc m_M_sharesIt 9 (.bipush (50)) 2 11 := ⟨by decide +kernel, rfl⟩
set_option maxRecDepth 100000 in
theorem d_M_sharesIt_11 : Dc m_M_sharesIt 11 (.invokevirtual 326) 3 14 := ⟨by decide +kernel, rfl⟩
set_option maxRecDepth 100000 in
theorem d_M_sharesIt_14 : Dc m_M_sharesIt 14 (.aload_n 0) 1 15 := ⟨by decide +kernel, rfl⟩
set_option maxRecDepth 100000 in
theorem d_M_sharesIt_15 : Dc m_M_sharesIt 15 (.iload_n 1) 1 16 := ⟨by decide +kernel, rfl⟩
set_option maxRecDepth 100000 in
theorem d_M_sharesIt_16 : Dc m_M_sharesIt 16 (.iconst 2) 1 17 := ⟨by decide +kernel, rfl⟩
set_option maxRecDepth 100000 in
theorem d_M_sharesIt_17 : Dc m_M_sharesIt 17 .iadd 1 18 := ⟨by decide +kernel, rfl⟩
set_option maxRecDepth 100000 in
theorem d_M_sharesIt_18 : Dc m_M_sharesIt 18 (.invokevirtual 353) 3 21 := ⟨by decide +kernel, rfl⟩
set_option maxRecDepth 100000 in
theorem d_M_sharesIt_21 : Dc m_M_sharesIt 21 (.iconst 1) 1 22 := ⟨by decide +kernel, rfl⟩
set_option maxRecDepth 100000 in
theorem d_M_sharesIt_22 : Dc m_M_sharesIt 22 .ixor 1 23 := ⟨by decide +kernel, rfl⟩
set_option maxRecDepth 100000 in
theorem d_M_sharesIt_23 : Dc m_M_sharesIt 23 .ireturn 1 24 := ⟨by decide +kernel, rfl⟩
set_option maxRecDepth 100000 in
theorem d_M_sharesIt_24 : Dc m_M_sharesIt 24 (.aload_n 0) 1 25 := ⟨by decide +kernel, rfl⟩
set_option maxRecDepth 100000 in
theorem d_M_sharesIt_25 : Dc m_M_sharesIt 25 (.getfield 335) 3 28 := ⟨by decide +kernel, rfl⟩
set_option maxRecDepth 100000 in
theorem d_M_sharesIt_28 : Dc m_M_sharesIt 28 (.iconst 5) 1 29 := ⟨by decide +kernel, rfl⟩
set_option maxRecDepth 100000 in
theorem d_M_sharesIt_29 : Dj m_M_sharesIt 29 (.if_icmp .ne) 32 66 := ⟨37, by decide +kernel, rfl, by decide⟩
set_option maxRecDepth 100000 in
theorem d_M_sharesIt_32 : Dc m_M_sharesIt 32 (.aload_n 0) 1 33 := ⟨by decide +kernel, rfl⟩
set_option maxRecDepth 100000 in
theorem d_M_sharesIt_33 : Dc m_M_sharesIt 33 (.bipush (61)) 2 35 := ⟨by decide +kernel, rfl⟩
set_option maxRecDepth 100000 in
theorem d_M_sharesIt_35 : Dc m_M_sharesIt 35 (.invokevirtual 326) 3 38 := ⟨by decide +kernel, rfl⟩
set_option maxRecDepth 100000 in
theorem d_M_sharesIt_38 : Dc m_M_sharesIt 38 (.aload_n 0) 1 39 := ⟨by decide +kernel, rfl⟩
set_option maxRecDepth 100000 in
theorem d_M_sharesIt_39 : Dc m_M_sharesIt 39 (.iload_n 1) 1 40 := ⟨by decide +kernel, rfl⟩
set_option maxRecDepth 100000 in
theorem d_M_sharesIt_40 : Dc m_M_sharesIt 40 (.invokevirtual 353) 3 43 := ⟨by decide +kernel, rfl⟩
set_option maxRecDepth 100000 in
theorem d_M_sharesIt_43 : Dc m_M_sharesIt 43 (.istore_n 2) 1 44 := ⟨by decide +kernel, rfl⟩
set_option maxRecDepth 100000 in
theorem d_M_sharesIt_44 : Dc m_M_sharesIt 44 (.aload_n 0) 1 45 := ⟨by decide +kernel, rfl⟩
set_option maxRecDepth 100000 in
theorem d_M_sharesIt_45 : Dc m_M_sharesIt 45 (.getfield 350) 3 48 := ⟨by decide +kernel, rfl⟩
set_option maxRecDepth 100000 in
theorem d_M_sharesIt_48 : Dj m_M_sharesIt 48 (.ifCond .eq) 51 55 := ⟨7, by decide +kernel, rfl, by decide⟩
set_option maxRecDepth 100000 in
theorem d_M_sharesIt_51 : Dc m_M_sharesIt 51 (.iconst 0) 1 52 := ⟨by decide +kernel, rfl⟩
set_option maxRecDepth 100000 in
theorem d_M_sharesIt_52 : Dj m_M_sharesIt 52 .goto 55 65 := ⟨13, by decide +kernel, rfl, by decide⟩
set_option maxRecDepth 100000 in
theorem d_M_sharesIt_55 : Dc m_M_sharesIt 55 (.iload_n 2) 1 56 := ⟨by decide +kernel, rfl⟩
set_option maxRecDepth 100000 in
theorem d_M_sharesIt_56 : Dc m_M_sharesIt 56 (.aload_n 0) 1 57 := ⟨by decide +kernel, rfl⟩
set_option maxRecDepth 100000 in
theorem d_M_sharesIt_57 : Dc m_M_sharesIt 57 (.aload_n 0) 1 58 := ⟨by decide +kernel, rfl⟩
set_option maxRecDepth 100000 in
theorem d_M_sharesIt_58 : Dc m_M_sharesIt 58 (.getfield 347) 3 61 := ⟨by decide +kernel, rfl⟩
set_option maxRecDepth 100000 in
theorem d_M_sharesIt_61 : Dc m_M_sharesIt 61 (.invokevirtual 341) 3 64 := ⟨by decide +kernel, rfl⟩
set_option maxRecDepth 100000 in
theorem d_M_sharesIt_64 : Dc m_M_sharesIt 64 .iadd 1 65 := ⟨by decide +kernel, rfl⟩
set_option maxRecDepth 100000 in
theorem d_M_sharesIt_65 : Dc m_M_sharesIt 65 .ireturn 1 66 := ⟨by decide +kernel, rfl⟩
set_option maxRecDepth 100000 in
theorem d_M_sharesIt_66 : Dc m_M_sharesIt 66 (.aload_n 0) 1 67 := ⟨by decide +kernel, rfl⟩
set_option maxRecDepth 100000 in
theorem d_M_sharesIt_67 : Dc m_M_sharesIt 67 (.iload_n 1) 1 68 := ⟨by decide +kernel, rfl⟩
set_option maxRecDepth 100000 in
theorem d_M_sharesIt_68 : Dc m_M_sharesIt 68 (.invokevirtual 353) 3 71 := ⟨by decide +kernel, rfl⟩
set_option maxRecDepth 100000 in
theorem d_M_sharesIt_71 : Dc m_M_sharesIt 71 .ireturn 1 72 := ⟨by decide +kernel, rfl⟩
set_option maxRecDepth 100000 in
theorem d_M_plainTells_0 : Dc m_M_plainTells 0 (.aload_n 0) 1 1 := ⟨by decide +kernel, rfl⟩
set_option maxRecDepth 100000 in
theorem d_M_plainTells_1 : Dc m_M_plainTells 1 (.bipush (13)) 2 3 := ⟨by decide +kernel, rfl⟩
set_option maxRecDepth 100000 in
theorem d_M_plainTells_3 : Dc m_M_plainTells 3 (.invokevirtual 326) 3 6 := ⟨by decide +kernel, rfl⟩
set_option maxRecDepth 100000 in
theorem d_M_plainTells_6 : Dc m_M_plainTells 6 (.aload_n 0) 1 7 := ⟨by decide +kernel, rfl⟩
set_option maxRecDepth 100000 in
theorem d_M_plainTells_7 : Dc m_M_plainTells 7 (.iload_n 1) 1 8 := ⟨by decide +kernel, rfl⟩
set_option maxRecDepth 100000 in
theorem d_M_plainTells_8 : Dc m_M_plainTells 8 (.invokevirtual 356) 3 11 := ⟨by decide +kernel, rfl⟩
set_option maxRecDepth 100000 in
theorem d_M_plainTells_11 : Dc m_M_plainTells 11 (.aload_n 0) 1 12 := ⟨by decide +kernel, rfl⟩
set_option maxRecDepth 100000 in
theorem d_M_plainTells_12 : Dc m_M_plainTells 12 (.getfield 347) 3 15 := ⟨by decide +kernel, rfl⟩
set_option maxRecDepth 100000 in
theorem d_M_plainTells_15 : Dc m_M_plainTells 15 .ixor 1 16 := ⟨by decide +kernel, rfl⟩
set_option maxRecDepth 100000 in
theorem d_M_plainTells_16 : Dc m_M_plainTells 16 .ireturn 1 17 := ⟨by decide +kernel, rfl⟩
set_option maxRecDepth 100000 in
theorem d_M_tellsIt_0 : Dc m_M_tellsIt 0 (.aload_n 0) 1 1 := ⟨by decide +kernel, rfl⟩
set_option maxRecDepth 100000 in
theorem d_M_tellsIt_1 : Dc m_M_tellsIt 1 (.getfield 335) 3 4 := ⟨by decide +kernel, rfl⟩
set_option maxRecDepth 100000 in
theorem d_M_tellsIt_4 : Dc m_M_tellsIt 4 (.iconst 2) 1 5 := ⟨by decide +kernel, rfl⟩
set_option maxRecDepth 100000 in
theorem d_M_tellsIt_5 : Dj m_M_tellsIt 5 (.if_icmp .eq) 8 16 := ⟨11, by decide +kernel, rfl, by decide⟩
set_option maxRecDepth 100000 in
theorem d_M_tellsIt_8 : Dc m_M_tellsIt 8 (.aload_n 0) 1 9 := ⟨by decide +kernel, rfl⟩
set_option maxRecDepth 100000 in
theorem d_M_tellsIt_9 : Dc m_M_tellsIt 9 (.getfield 335) 3 12 := ⟨by decide +kernel, rfl⟩
set_option maxRecDepth 100000 in
theorem d_M_tellsIt_12 : Dc m_M_tellsIt 12 (.iconst 3) 1 13 := ⟨by decide +kernel, rfl⟩
set_option maxRecDepth 100000 in
theorem d_M_tellsIt_13 : Dj m_M_tellsIt 13 (.if_icmp .ne) 16 39 := ⟨26, by decide +kernel, rfl, by decide⟩
set_option maxRecDepth 100000 in
theorem d_M_tellsIt_16 : Dc m_M_tellsIt 16 (.aload_n 0) 1 17 := ⟨by decide +kernel, rfl⟩
set_option maxRecDepth 100000 in
theorem d_M_tellsIt_17 : Dc m_M_tellsIt 17 (.bipush (31)) 2 19 := ⟨by decide +kernel, rfl⟩
set_option maxRecDepth 100000 in
theorem d_M_tellsIt_19 : Dc m_M_tellsIt 19 (.invokevirtual 326) 3 22 := ⟨by decide +kernel, rfl⟩
set_option maxRecDepth 100000 in
theorem d_M_tellsIt_22 : Dc m_M_tellsIt 22 (.aload_n 0) 1 23 := ⟨by decide +kernel, rfl⟩
set_option maxRecDepth 100000 in
theorem d_M_tellsIt_23 : Dc m_M_tellsIt 23 (.iload_n 1) 1 24 := ⟨by decide +kernel, rfl⟩
set_option maxRecDepth 100000 in
theorem d_M_tellsIt_24 : Dc m_M_tellsIt 24 (.invokevirtual 359) 3 27 := ⟨by decide +kernel, rfl⟩
set_option maxRecDepth 100000 in
theorem d_M_tellsIt_27 : Dc m_M_tellsIt 27 (.istore_n 2) 1 28 := ⟨by decide +kernel, rfl⟩
set_option maxRecDepth 100000 in
theorem d_M_tellsIt_28 : Dc m_M_tellsIt 28 (.iload_n 2) 1 29 := ⟨by decide +kernel, rfl⟩
set_option maxRecDepth 100000 in
theorem d_M_tellsIt_29 : Dc m_M_tellsIt 29 (.aload_n 0) 1 30 := ⟨by decide +kernel, rfl⟩
set_option maxRecDepth 100000 in
theorem d_M_tellsIt_30 : Dc m_M_tellsIt 30 (.aload_n 0) 1 31 := ⟨by decide +kernel, rfl⟩
set_option maxRecDepth 100000 in
theorem d_M_tellsIt_31 : Dc m_M_tellsIt 31 (.getfield 329) 3 34 := ⟨by decide +kernel, rfl⟩
set_option maxRecDepth 100000 in
theorem d_M_tellsIt_34 : Dc m_M_tellsIt 34 (.invokevirtual 362) 3 37 := ⟨by decide +kernel, rfl⟩
set_option maxRecDepth 100000 in
theorem d_M_tellsIt_37 : Dc m_M_tellsIt 37 .iadd 1 38 := ⟨by decide +kernel, rfl⟩
set_option maxRecDepth 100000 in
theorem d_M_tellsIt_38 : Dc m_M_tellsIt 38 .ireturn 1 39 := ⟨by decide +kernel, rfl⟩
set_option maxRecDepth 100000 in
theorem d_M_tellsIt_39 : Dc m_M_tellsIt 39 (.aload_n 0) 1 40 := ⟨by decide +kernel, rfl⟩
set_option maxRecDepth 100000 in
theorem d_M_tellsIt_40 : Dc m_M_tellsIt 40 (.getfield 335) 3 43 := ⟨by decide +kernel, rfl⟩
set_option maxRecDepth 100000 in
theorem d_M_tellsIt_43 : Dc m_M_tellsIt 43 (.iconst 5) 1 44 := ⟨by decide +kernel, rfl⟩
set_option maxRecDepth 100000 in
theorem d_M_tellsIt_44 : Dj m_M_tellsIt 44 (.if_icmp .ne) 47 61 := ⟨17, by decide +kernel, rfl, by decide⟩
set_option maxRecDepth 100000 in
theorem d_M_tellsIt_47 : Dc m_M_tellsIt 47 (.aload_n 0) 1 48 := ⟨by decide +kernel, rfl⟩
set_option maxRecDepth 100000 in
theorem d_M_tellsIt_48 : Dc m_M_tellsIt 48 (.bipush (60)) 2 50 := ⟨by decide +kernel, rfl⟩
set_option maxRecDepth 100000 in
theorem d_M_tellsIt_50 : Dc m_M_tellsIt 50 (.invokevirtual 326) 3 53 := ⟨by decide +kernel, rfl⟩
set_option maxRecDepth 100000 in
theorem d_M_tellsIt_53 : Dc m_M_tellsIt 53 (.aload_n 0) 1 54 := ⟨by decide +kernel, rfl⟩
set_option maxRecDepth 100000 in
theorem d_M_tellsIt_54 : Dc m_M_tellsIt 54 (.iload_n 1) 1 55 := ⟨by decide +kernel, rfl⟩
set_option maxRecDepth 100000 in
theorem d_M_tellsIt_55 : Dc m_M_tellsIt 55 (.invokevirtual 359) 3 58 := ⟨by decide +kernel, rfl⟩
set_option maxRecDepth 100000 in
theorem d_M_tellsIt_58 : Dc m_M_tellsIt 58 (.iconst 2) 1 59 := ⟨by decide +kernel, rfl⟩
set_option maxRecDepth 100000 in
theorem d_M_tellsIt_59 : Dc m_M_tellsIt 59 .imul 1 60 := ⟨by decide +kernel, rfl⟩
set_option maxRecDepth 100000 in
theorem d_M_tellsIt_60 : Dc m_M_tellsIt 60 .ireturn 1 61 := ⟨by decide +kernel, rfl⟩
set_option maxRecDepth 100000 in
theorem d_M_tellsIt_61 : Dc m_M_tellsIt 61 (.aload_n 0) 1 62 := ⟨by decide +kernel, rfl⟩
set_option maxRecDepth 100000 in
theorem d_M_tellsIt_62 : Dc m_M_tellsIt 62 (.iload_n 1) 1 63 := ⟨by decide +kernel, rfl⟩
set_option maxRecDepth 100000 in
theorem d_M_tellsIt_63 : Dc m_M_tellsIt 63 (.invokevirtual 359) 3 66 := ⟨by decide +kernel, rfl⟩
set_option maxRecDepth 100000 in
theorem d_M_tellsIt_66 : Dc m_M_tellsIt 66 .ireturn 1 67 := ⟨by decide +kernel, rfl⟩
set_option maxRecDepth 100000 in
theorem d_M_act_0 : Dc m_M_act 0 (.aload_n 0) 1 1 := ⟨by decide +kernel, rfl⟩
set_option maxRecDepth 100000 in
theorem d_M_act_1 : Dc m_M_act 1 (.iconst 0) 1 2 := ⟨by decide +kernel, rfl⟩
set_option maxRecDepth 100000 in
theorem d_M_act_2 : Dc m_M_act 2 (.putfield 323) 3 5 := ⟨by decide +kernel, rfl⟩
set_option maxRecDepth 100000 in
theorem d_M_act_5 : Dc m_M_act 5 (.iload_n 1) 1 6 := ⟨by decide +kernel, rfl⟩
set_option maxRecDepth 100000 in
theorem d_M_act_6 : Dc m_M_act 6 (.invokestatic 308) 3 9 := ⟨by decide +kernel, rfl⟩
set_option maxRecDepth 100000 in
theorem d_M_act_9 : Dj m_M_act 9 (.ifCond .eq) 12 20 := ⟨11, by decide +kernel, rfl, by decide⟩
set_option maxRecDepth 100000 in
theorem d_M_act_12 : Dc m_M_act 12 (.aload_n 0) 1 13 := ⟨by decide +kernel, rfl⟩
set_option maxRecDepth 100000 in
theorem d_M_act_13 : Dc m_M_act 13 (.iload_n 1) 1 14 := ⟨by decide +kernel, rfl⟩
set_option maxRecDepth 100000 in
theorem d_M_act_14 : Dc m_M_act 14 (.invokevirtual 317) 3 17 := ⟨by decide +kernel, rfl⟩
set_option maxRecDepth 100000 in
theorem d_M_act_17 : Dj m_M_act 17 .goto 20 21 := ⟨4, by decide +kernel, rfl, by decide⟩
set_option maxRecDepth 100000 in
theorem d_M_act_20 : Dc m_M_act 20 (.iconst (-1)) 1 21 := ⟨by decide +kernel, rfl⟩
set_option maxRecDepth 100000 in
theorem d_M_act_21 : Dc m_M_act 21 (.istore 4) 2 23 := ⟨by decide +kernel, rfl⟩
set_option maxRecDepth 100000 in
theorem d_M_act_23 : Dc m_M_act 23 (.iload_n 2) 1 24 := ⟨by decide +kernel, rfl⟩
set_option maxRecDepth 100000 in
theorem d_M_act_24 : Dc m_M_act 24 (.iconst 0) 1 25 := ⟨by decide +kernel, rfl⟩
set_option maxRecDepth 100000 in
theorem d_M_act_25 : Dc m_M_act 25 (.iconst 3) 1 26 := ⟨by decide +kernel, rfl⟩
set_option maxRecDepth 100000 in
theorem d_M_act_26 : Dc m_M_act 26 (.invokestatic 72) 3 29 := ⟨by decide +kernel, rfl⟩
set_option maxRecDepth 100000 in
theorem d_M_act_29 : Dj m_M_act 29 (.ifCond .eq) 32 42 := ⟨13, by decide +kernel, rfl, by decide⟩
set_option maxRecDepth 100000 in
theorem d_M_act_32 : Dc m_M_act 32 (.iload 4) 2 34 := ⟨by decide +kernel, rfl⟩
set_option maxRecDepth 100000 in
theorem d_M_act_34 : Dc m_M_act 34 (.iconst 0) 1 35 := ⟨by decide +kernel, rfl⟩
set_option maxRecDepth 100000 in
theorem d_M_act_35 : Dc m_M_act 35 (.iconst 5) 1 36 := ⟨by decide +kernel, rfl⟩
set_option maxRecDepth 100000 in
theorem d_M_act_36 : Dc m_M_act 36 (.invokestatic 72) 3 39 := ⟨by decide +kernel, rfl⟩
set_option maxRecDepth 100000 in
theorem d_M_act_39 : Dj m_M_act 39 (.ifCond .ne) 42 44 := ⟨5, by decide +kernel, rfl, by decide⟩
set_option maxRecDepth 100000 in
theorem d_M_act_42 : Dc m_M_act 42 (.iconst 0) 1 43 := ⟨by decide +kernel, rfl⟩
set_option maxRecDepth 100000 in
theorem d_M_act_43 : Dc m_M_act 43 .ireturn 1 44 := ⟨by decide +kernel, rfl⟩
set_option maxRecDepth 100000 in
theorem d_M_act_44 : Dc m_M_act 44 (.aload_n 0) 1 45 := ⟨by decide +kernel, rfl⟩
set_option maxRecDepth 100000 in
theorem d_M_act_45 : Dc m_M_act 45 (.iload 4) 2 47 := ⟨by decide +kernel, rfl⟩
set_option maxRecDepth 100000 in
theorem d_M_act_47 : Dc m_M_act 47 (.putfield 335) 3 50 := ⟨by decide +kernel, rfl⟩
set_option maxRecDepth 100000 in
theorem d_M_act_50 : Dc m_M_act 50 (.aload_n 0) 1 51 := ⟨by decide +kernel, rfl⟩
set_option maxRecDepth 100000 in
theorem d_M_act_51 : Dc m_M_act 51 (.aload_n 0) 1 52 := ⟨by decide +kernel, rfl⟩
set_option maxRecDepth 100000 in
theorem d_M_act_52 : Dc m_M_act 52 (.getfield 57) 3 55 := ⟨by decide +kernel, rfl⟩
set_option maxRecDepth 100000 in
theorem d_M_act_55 : Dc m_M_act 55 (.iload_n 1) 1 56 := ⟨by decide +kernel, rfl⟩
set_option maxRecDepth 100000 in
theorem d_M_act_56 : Dc m_M_act 56 .iaload 1 57 := ⟨by decide +kernel, rfl⟩
set_option maxRecDepth 100000 in
theorem d_M_act_57 : Dc m_M_act 57 (.putfield 329) 3 60 := ⟨by decide +kernel, rfl⟩
set_option maxRecDepth 100000 in
theorem d_M_act_60 : Dc m_M_act 60 (.aload_n 0) 1 61 := ⟨by decide +kernel, rfl⟩
set_option maxRecDepth 100000 in
theorem d_M_act_61 : Dc m_M_act 61 (.aload_n 0) 1 62 := ⟨by decide +kernel, rfl⟩
set_option maxRecDepth 100000 in
theorem d_M_act_62 : Dc m_M_act 62 (.aload_n 0) 1 63 := ⟨by decide +kernel, rfl⟩
set_option maxRecDepth 100000 in
theorem d_M_act_63 : Dc m_M_act 63 (.getfield 329) 3 66 := ⟨by decide +kernel, rfl⟩
set_option maxRecDepth 100000 in
theorem d_M_act_66 : Dc m_M_act 66 (.invokevirtual 121) 3 69 := ⟨by decide +kernel, rfl⟩
set_option maxRecDepth 100000 in
theorem d_M_act_69 : Dc m_M_act 69 (.putfield 347) 3 72 := ⟨by decide +kernel, rfl⟩
set_option maxRecDepth 100000 in
theorem d_M_act_72 : Dc m_M_act 72 (.aload_n 0) 1 73 := ⟨by decide +kernel, rfl⟩
set_option maxRecDepth 100000 in
theorem d_M_act_73 : Dc m_M_act 73 (.iconst 0) 1 74 := ⟨by decide +kernel, rfl⟩
set_option maxRecDepth 100000 in
theorem d_M_act_74 : Dc m_M_act 74 (.putfield 350) 3 77 := ⟨by decide +kernel, rfl⟩
set_option maxRecDepth 100000 in
theorem d_M_act_77 : Dc m_M_act 77 (.iload_n 2) 1 78 := ⟨by decide +kernel, rfl⟩
set_option maxRecDepth 100000 in
theorem d_M_act_78 : Dj m_M_act 78 (.ifCond .ne) 81 89 := ⟨11, by decide +kernel, rfl, by decide⟩
set_option maxRecDepth 100000 in
theorem d_M_act_81 : Dc m_M_act 81 (.aload_n 0) 1 82 := ⟨by decide +kernel, rfl⟩
set_option maxRecDepth 100000 in
theorem d_M_act_82 : Dc m_M_act 82 (.iload_n 3) 1 83 := ⟨by decide +kernel, rfl⟩
set_option maxRecDepth 100000 in
theorem d_M_act_83 : Dc m_M_act 83 (.invokevirtual 341) 3 86 := ⟨by decide +kernel, rfl⟩
set_option maxRecDepth 100000 in
theorem d_M_act_86 : Dj m_M_act 86 .goto 89 120 := ⟨34, by decide +kernel, rfl, by decide⟩
set_option maxRecDepth 100000 in
theorem d_M_act_89 : Dc m_M_act 89 (.iload_n 2) 1 90 := ⟨by decide +kernel, rfl⟩
set_option maxRecDepth 100000 in
theorem d_M_act_90 : Dc m_M_act 90 (.iconst 1) 1 91 := ⟨by decide +kernel, rfl⟩
set_option maxRecDepth 100000 in
theorem d_M_act_91 : Dj m_M_act 91 (.if_icmp .ne) 94 102 := ⟨11, by decide +kernel, rfl, by decide⟩
set_option maxRecDepth 100000 in
theorem d_M_act_94 : Dc m_M_act 94 (.aload_n 0) 1 95 := ⟨by decide +kernel, rfl⟩
set_option maxRecDepth 100000 in
theorem d_M_act_95 : Dc m_M_act 95 (.iload_n 3) 1 96 := ⟨by decide +kernel, rfl⟩
set_option maxRecDepth 100000 in
theorem d_M_act_96 : Dc m_M_act 96 (.invokevirtual 356) 3 99 := ⟨by decide +kernel, rfl⟩
set_option maxRecDepth 100000 in
theorem d_M_act_99 : Dj m_M_act 99 .goto 102 120 := ⟨21, by decide +kernel, rfl, by decide⟩
set_option maxRecDepth 100000 in
theorem d_M_act_102 : Dc m_M_act 102 (.iload_n 2) 1 103 := ⟨by decide +kernel, rfl⟩
set_option maxRecDepth 100000 in
theorem d_M_act_103 : Dc m_M_act 103 (.iconst 2) 1 104 := ⟨by decide +kernel, rfl⟩
set_option maxRecDepth 100000 in
theorem d_M_act_104 : Dj m_M_act 104 (.if_icmp .ne) 107 115 := ⟨11, by decide +kernel, rfl, by decide⟩
set_option maxRecDepth 100000 in
theorem d_M_act_107 : Dc m_M_act 107 (.aload_n 0) 1 108 := ⟨by decide +kernel, rfl⟩
set_option maxRecDepth 100000 in
theorem d_M_act_108 : Dc m_M_act 108 (.iload_n 3) 1 109 := ⟨by decide +kernel, rfl⟩
set_option maxRecDepth 100000 in
theorem d_M_act_109 : Dc m_M_act 109 (.invokevirtual 362) 3 112 := ⟨by decide +kernel, rfl⟩
set_option maxRecDepth 100000 in
theorem d_M_act_112 : Dj m_M_act 112 .goto 115 120 := ⟨8, by decide +kernel, rfl, by decide⟩
set_option maxRecDepth 100000 in
theorem d_M_act_115 : Dc m_M_act 115 (.aload_n 0) 1 116 := ⟨by decide +kernel, rfl⟩
set_option maxRecDepth 100000 in
theorem d_M_act_116 : Dc m_M_act 116 (.iload_n 3) 1 117 := ⟨by decide +kernel, rfl⟩
set_option maxRecDepth 100000 in
theorem d_M_act_117 : Dc m_M_act 117 (.invokevirtual 365) 3 120 := ⟨by decide +kernel, rfl⟩
set_option maxRecDepth 100000 in
theorem d_M_act_120 : Dc m_M_act 120 (.istore 5) 2 122 := ⟨by decide +kernel, rfl⟩
set_option maxRecDepth 100000 in
theorem d_M_act_122 : Dc m_M_act 122 (.aload_n 0) 1 123 := ⟨by decide +kernel, rfl⟩
set_option maxRecDepth 100000 in
theorem d_M_act_123 : Dc m_M_act 123 (.getfield 350) 3 126 := ⟨by decide +kernel, rfl⟩
set_option maxRecDepth 100000 in
theorem d_M_act_126 : Dj m_M_act 126 (.ifCond .eq) 129 134 := ⟨8, by decide +kernel, rfl, by decide⟩
set_option maxRecDepth 100000 in
theorem d_M_act_129 : Dc m_M_act 129 (.bipush (-15)) 2 131 := ⟨by decide +kernel, rfl⟩
set_option maxRecDepth 100000 in
theorem d_M_act_131 : Dj m_M_act 131 .goto 134 136 := ⟨5, by decide +kernel, rfl, by decide⟩
set_option maxRecDepth 100000 in
theorem d_M_act_134 : Dc m_M_act 134 (.iload 5) 2 136 := ⟨by decide +kernel, rfl⟩
set_option maxRecDepth 100000 in
theorem d_M_act_136 : Dc m_M_act 136 .ireturn 1 137 := ⟨by decide +kernel, rfl⟩
set_option maxRecDepth 100000 in
theorem d_M_trace_0 : Dc m_M_trace 0 (.iload_n 1) 1 1 := ⟨by decide +kernel, rfl⟩
set_option maxRecDepth 100000 in
theorem d_M_trace_1 : Dc m_M_trace 1 (.iconst 0) 1 2 := ⟨by decide +kernel, rfl⟩
set_option maxRecDepth 100000 in
theorem d_M_trace_2 : Dc m_M_trace 2 (.aload_n 0) 1 3 := ⟨by decide +kernel, rfl⟩
set_option maxRecDepth 100000 in
theorem d_M_trace_3 : Dc m_M_trace 3 (.getfield 323) 3 6 := ⟨by decide +kernel, rfl⟩
set_option maxRecDepth 100000 in
theorem d_M_trace_6 : Dc m_M_trace 6 (.iconst 1) 1 7 := ⟨by decide +kernel, rfl⟩
set_option maxRecDepth 100000 in
theorem d_M_trace_7 : Dc m_M_trace 7 .isub 1 8 := ⟨by decide +kernel, rfl⟩
set_option maxRecDepth 100000 in
theorem d_M_trace_8 : Dc m_M_trace 8 (.invokestatic 72) 3 11 := ⟨by decide +kernel, rfl⟩
set_option maxRecDepth 100000 in
theorem d_M_trace_11 : Dj m_M_trace 11 (.ifCond .eq) 14 23 := ⟨12, by decide +kernel, rfl, by decide⟩
set_option maxRecDepth 100000 in
theorem d_M_trace_14 : Dc m_M_trace 14 (.aload_n 0) 1 15 := ⟨by decide +kernel, rfl⟩
set_option maxRecDepth 100000 in
theorem d_M_trace_15 : Dc m_M_trace 15 (.getfield 63) 3 18 := ⟨by decide +kernel, rfl⟩
set_option maxRecDepth 100000 in
theorem d_M_trace_18 : Dc m_M_trace 18 (.iload_n 1) 1 19 := ⟨by decide +kernel, rfl⟩
set_option maxRecDepth 100000 in
theorem d_M_trace_19 : Dc m_M_trace 19 .iaload 1 20 := ⟨by decide +kernel, rfl⟩
set_option maxRecDepth 100000 in
theorem d_M_trace_20 : Dj m_M_trace 20 .goto 23 25 := ⟨5, by decide +kernel, rfl, by decide⟩
set_option maxRecDepth 100000 in
theorem d_M_trace_23 : Dc m_M_trace 23 (.bipush (-3)) 2 25 := ⟨by decide +kernel, rfl⟩
set_option maxRecDepth 100000 in
theorem d_M_trace_25 : Dc m_M_trace 25 .ireturn 1 26 := ⟨by decide +kernel, rfl⟩
set_option maxRecDepth 100000 in
theorem d_M_many_0 : Dc m_M_many 0 (.iload_n 1) 1 1 := ⟨by decide +kernel, rfl⟩
set_option maxRecDepth 100000 in
theorem d_M_many_1 : Ts m_M_many 1 [(0, 36), (1, 43), (2, 48), (3, 53), (4, 58)] 63 := ⟨62, 0, 4, [35, 42, 47, 52, 57], 35, by decide +kernel, by decide, by decide +kernel⟩
set_option maxRecDepth 100000 in
theorem d_M_many_36 : Dc m_M_many 36 (.aload_n 0) 1 37 := ⟨by decide +kernel, rfl⟩
set_option maxRecDepth 100000 in
theorem d_M_many_37 : Dc m_M_many 37 (.getfield 7) 3 40 := ⟨by decide +kernel, rfl⟩
set_option maxRecDepth 100000 in
theorem d_M_many_40 : Dc m_M_many 40 (.iconst 0) 1 41 := ⟨by decide +kernel, rfl⟩
set_option maxRecDepth 100000 in
theorem d_M_many_41 : Dc m_M_many 41 .iaload 1 42 := ⟨by decide +kernel, rfl⟩
set_option maxRecDepth 100000 in
theorem d_M_many_42 : Dc m_M_many 42 .ireturn 1 43 := ⟨by decide +kernel, rfl⟩
set_option maxRecDepth 100000 in
theorem d_M_many_43 : Dc m_M_many 43 (.aload_n 0) 1 44 := ⟨by decide +kernel, rfl⟩
set_option maxRecDepth 100000 in
theorem d_M_many_44 : Dc m_M_many 44 (.getfield 288) 3 47 := ⟨by decide +kernel, rfl⟩
set_option maxRecDepth 100000 in
theorem d_M_many_47 : Dc m_M_many 47 .ireturn 1 48 := ⟨by decide +kernel, rfl⟩
set_option maxRecDepth 100000 in
theorem d_M_many_48 : Dc m_M_many 48 (.aload_n 0) 1 49 := ⟨by decide +kernel, rfl⟩
set_option maxRecDepth 100000 in
theorem d_M_many_49 : Dc m_M_many 49 (.getfield 301) 3 52 := ⟨by decide +kernel, rfl⟩
set_option maxRecDepth 100000 in
theorem d_M_many_52 : Dc m_M_many 52 .ireturn 1 53 := ⟨by decide +kernel, rfl⟩
set_option maxRecDepth 100000 in
theorem d_M_many_53 : Dc m_M_many 53 (.aload_n 0) 1 54 := ⟨by decide +kernel, rfl⟩
set_option maxRecDepth 100000 in
theorem d_M_many_54 : Dc m_M_many 54 (.getfield 225) 3 57 := ⟨by decide +kernel, rfl⟩
set_option maxRecDepth 100000 in
theorem d_M_many_57 : Dc m_M_many 57 .ireturn 1 58 := ⟨by decide +kernel, rfl⟩
set_option maxRecDepth 100000 in
theorem d_M_many_58 : Dc m_M_many 58 (.aload_n 0) 1 59 := ⟨by decide +kernel, rfl⟩
set_option maxRecDepth 100000 in
theorem d_M_many_59 : Dc m_M_many 59 (.getfield 323) 3 62 := ⟨by decide +kernel, rfl⟩
set_option maxRecDepth 100000 in
theorem d_M_many_62 : Dc m_M_many 62 .ireturn 1 63 := ⟨by decide +kernel, rfl⟩
set_option maxRecDepth 100000 in
theorem d_M_many_63 : Dc m_M_many 63 (.iconst (-1)) 1 64 := ⟨by decide +kernel, rfl⟩
set_option maxRecDepth 100000 in
theorem d_M_many_64 : Dc m_M_many 64 .ireturn 1 65 := ⟨by decide +kernel, rfl⟩
set_option maxRecDepth 100000 in
theorem d_M_moveRow_0 : Dc m_M_moveRow 0 (.iconst 0) 1 1 := ⟨by decide +kernel, rfl⟩
set_option maxRecDepth 100000 in
theorem d_M_moveRow_1 : Dc m_M_moveRow 1 (.istore 4) 2 3 := ⟨by decide +kernel, rfl⟩
set_option maxRecDepth 100000 in
theorem d_M_moveRow_3 : Dc m_M_moveRow 3 (.iload 4) 2 5 := ⟨by decide +kernel, rfl⟩
set_option maxRecDepth 100000 in
theorem d_M_moveRow_5 : Dc m_M_moveRow 5 (.iload_n 2) 1 6 := ⟨by decide +kernel, rfl⟩
set_option maxRecDepth 100000 in
theorem d_M_moveRow_6 : Dj m_M_moveRow 6 (.if_icmp .ge) 9 58 := ⟨52, by decide +kernel, rfl, by decide⟩
set_option maxRecDepth 100000 in
theorem d_M_moveRow_9 : Dc m_M_moveRow 9 (.iload_n 3) 1 10 := ⟨by decide +kernel, rfl⟩
set_option maxRecDepth 100000 in
theorem d_M_moveRow_10 : Dj m_M_moveRow 10 (.ifCond .eq) 13 29 := ⟨19, by decide +kernel, rfl, by decide⟩
set_option maxRecDepth 100000 in
theorem d_M_moveRow_13 : Dc m_M_moveRow 13 (.aload_n 0) 1 14 := ⟨by decide +kernel, rfl⟩
set_option maxRecDepth 100000 in
theorem d_M_moveRow_14 : Dc m_M_moveRow 14 (.getfield 66) 3 17 := ⟨by decide +kernel, rfl⟩
set_option maxRecDepth 100000 in
theorem d_M_moveRow_17 : Dc m_M_moveRow 17 (.aload_n 0) 1 18 := ⟨by decide +kernel, rfl⟩
set_option maxRecDepth 100000 in
theorem d_M_moveRow_18 : Dc m_M_moveRow 18 (.getfield 368) 3 21 := ⟨by decide +kernel, rfl⟩
set_option maxRecDepth 100000 in
theorem d_M_moveRow_21 : Dc m_M_moveRow 21 (.aload_n 1) 1 22 := ⟨by decide +kernel, rfl⟩
set_option maxRecDepth 100000 in
theorem d_M_moveRow_22 : Dc m_M_moveRow 22 (.iload 4) 2 24 := ⟨by decide +kernel, rfl⟩
set_option maxRecDepth 100000 in
theorem d_M_moveRow_24 : Dc m_M_moveRow 24 .iaload 1 25 := ⟨by decide +kernel, rfl⟩
set_option maxRecDepth 100000 in
theorem d_M_moveRow_25 : Dc m_M_moveRow 25 .iastore 1 26 := ⟨by decide +kernel, rfl⟩
set_option maxRecDepth 100000 in
theorem d_M_moveRow_26 : Dj m_M_moveRow 26 .goto 29 42 := ⟨16, by decide +kernel, rfl, by decide⟩
set_option maxRecDepth 100000 in
theorem d_M_moveRow_29 : Dc m_M_moveRow 29 (.aload_n 1) 1 30 := ⟨by decide +kernel, rfl⟩
set_option maxRecDepth 100000 in
theorem d_M_moveRow_30 : Dc m_M_moveRow 30 (.iload 4) 2 32 := ⟨by decide +kernel, rfl⟩
set_option maxRecDepth 100000 in
theorem d_M_moveRow_32 : Dc m_M_moveRow 32 (.aload_n 0) 1 33 := ⟨by decide +kernel, rfl⟩
set_option maxRecDepth 100000 in
theorem d_M_moveRow_33 : Dc m_M_moveRow 33 (.getfield 66) 3 36 := ⟨by decide +kernel, rfl⟩
set_option maxRecDepth 100000 in
theorem d_M_moveRow_36 : Dc m_M_moveRow 36 (.aload_n 0) 1 37 := ⟨by decide +kernel, rfl⟩
set_option maxRecDepth 100000 in
theorem d_M_moveRow_37 : Dc m_M_moveRow 37 (.getfield 368) 3 40 := ⟨by decide +kernel, rfl⟩
set_option maxRecDepth 100000 in
theorem d_M_moveRow_40 : Dc m_M_moveRow 40 .iaload 1 41 := ⟨by decide +kernel, rfl⟩
set_option maxRecDepth 100000 in
theorem d_M_moveRow_41 : Dc m_M_moveRow 41 .iastore 1 42 := ⟨by decide +kernel, rfl⟩
set_option maxRecDepth 100000 in
theorem d_M_moveRow_42 : Dc m_M_moveRow 42 (.aload_n 0) 1 43 := ⟨by decide +kernel, rfl⟩
set_option maxRecDepth 100000 in
theorem d_M_moveRow_43 : Dc m_M_moveRow 43 .dup 1 44 := ⟨by decide +kernel, rfl⟩
set_option maxRecDepth 100000 in
theorem d_M_moveRow_44 : Dc m_M_moveRow 44 (.getfield 368) 3 47 := ⟨by decide +kernel, rfl⟩
set_option maxRecDepth 100000 in
theorem d_M_moveRow_47 : Dc m_M_moveRow 47 (.iconst 1) 1 48 := ⟨by decide +kernel, rfl⟩
set_option maxRecDepth 100000 in
theorem d_M_moveRow_48 : Dc m_M_moveRow 48 .iadd 1 49 := ⟨by decide +kernel, rfl⟩
set_option maxRecDepth 100000 in
theorem d_M_moveRow_49 : Dc m_M_moveRow 49 (.putfield 368) 3 52 := ⟨by decide +kernel, rfl⟩
set_option maxRecDepth 100000 in
theorem d_M_moveRow_52 : Dc m_M_moveRow 52 (.iinc 4 (1)) 3 55 := ⟨by decide +kernel, rfl⟩
set_option maxRecDepth 100000 in
theorem d_M_moveRow_55 : Dj m_M_moveRow 55 .goto 58 3 := ⟨-52, by decide +kernel, rfl, by decide⟩
set_option maxRecDepth 100000 in
theorem d_M_moveRow_58 : Dc m_M_moveRow 58 .return_ 1 59 := ⟨by decide +kernel, rfl⟩
set_option maxRecDepth 100000 in
theorem d_M_moveAll_0 : Dc m_M_moveAll 0 (.aload_n 0) 1 1 := ⟨by decide +kernel, rfl⟩
set_option maxRecDepth 100000 in
theorem d_M_moveAll_1 : Dc m_M_moveAll 1 (.iconst 0) 1 2 := ⟨by decide +kernel, rfl⟩
set_option maxRecDepth 100000 in
theorem d_M_moveAll_2 : Dc m_M_moveAll 2 (.putfield 368) 3 5 := ⟨by decide +kernel, rfl⟩
set_option maxRecDepth 100000 in
theorem d_M_moveAll_5 : Dc m_M_moveAll 5 (.aload_n 0) 1 6 := ⟨by decide +kernel, rfl⟩
set_option maxRecDepth 100000 in
theorem d_M_moveAll_6 : Dc m_M_moveAll 6 (.getfield 69) 3 9 := ⟨by decide +kernel, rfl⟩
set_option maxRecDepth 100000 in
theorem d_M_moveAll_9 : Dc m_M_moveAll 9 (.iconst 0) 1 10 := ⟨by decide +kernel, rfl⟩
set_option maxRecDepth 100000 in
theorem d_M_moveAll_10 : Dc m_M_moveAll 10 (.aload_n 0) 1 11 := ⟨by decide +kernel, rfl⟩
set_option maxRecDepth 100000 in
theorem d_M_moveAll_11 : Dc m_M_moveAll 11 (.getfield 19) 3 14 := ⟨by decide +kernel, rfl⟩
set_option maxRecDepth 100000 in
theorem d_M_moveAll_14 : Dc m_M_moveAll 14 .iastore 1 15 := ⟨by decide +kernel, rfl⟩
set_option maxRecDepth 100000 in
theorem d_M_moveAll_15 : Dc m_M_moveAll 15 (.aload_n 0) 1 16 := ⟨by decide +kernel, rfl⟩
set_option maxRecDepth 100000 in
theorem d_M_moveAll_16 : Dc m_M_moveAll 16 (.getfield 69) 3 19 := ⟨by decide +kernel, rfl⟩
set_option maxRecDepth 100000 in
theorem d_M_moveAll_19 : Dc m_M_moveAll 19 (.iconst 1) 1 20 := ⟨by decide +kernel, rfl⟩
set_option maxRecDepth 100000 in
theorem d_M_moveAll_20 : Dc m_M_moveAll 20 (.aload_n 0) 1 21 := ⟨by decide +kernel, rfl⟩
set_option maxRecDepth 100000 in
theorem d_M_moveAll_21 : Dc m_M_moveAll 21 (.getfield 288) 3 24 := ⟨by decide +kernel, rfl⟩
set_option maxRecDepth 100000 in
theorem d_M_moveAll_24 : Dc m_M_moveAll 24 .iastore 1 25 := ⟨by decide +kernel, rfl⟩
set_option maxRecDepth 100000 in
theorem d_M_moveAll_25 : Dc m_M_moveAll 25 (.aload_n 0) 1 26 := ⟨by decide +kernel, rfl⟩
set_option maxRecDepth 100000 in
theorem d_M_moveAll_26 : Dc m_M_moveAll 26 (.aload_n 0) 1 27 := ⟨by decide +kernel, rfl⟩
set_option maxRecDepth 100000 in
theorem d_M_moveAll_27 : Dc m_M_moveAll 27 (.getfield 69) 3 30 := ⟨by decide +kernel, rfl⟩
set_option maxRecDepth 100000 in
theorem d_M_moveAll_30 : Dc m_M_moveAll 30 (.iconst 2) 1 31 := ⟨by decide +kernel, rfl⟩
set_option maxRecDepth 100000 in
theorem d_M_moveAll_31 : Dc m_M_moveAll 31 (.iload_n 1) 1 32 := ⟨by decide +kernel, rfl⟩
set_option maxRecDepth 100000 in
theorem d_M_moveAll_32 : Dc m_M_moveAll 32 (.invokevirtual 371) 3 35 := ⟨by decide +kernel, rfl⟩
set_option maxRecDepth 100000 in
theorem d_M_moveAll_35 : Dc m_M_moveAll 35 (.aload_n 0) 1 36 := ⟨by decide +kernel, rfl⟩
set_option maxRecDepth 100000 in
theorem d_M_moveAll_36 : Dc m_M_moveAll 36 (.aload_n 0) 1 37 := ⟨by decide +kernel, rfl⟩
set_option maxRecDepth 100000 in
theorem d_M_moveAll_37 : Dc m_M_moveAll 37 (.getfield 7) 3 40 := ⟨by decide +kernel, rfl⟩
set_option maxRecDepth 100000 in
theorem d_M_moveAll_40 : Dc m_M_moveAll 40 (.sipush (442)) 3 43 := ⟨by decide +kernel, rfl⟩
set_option maxRecDepth 100000 in
theorem d_M_moveAll_43 : Dc m_M_moveAll 43 (.iload_n 1) 1 44 := ⟨by decide +kernel, rfl⟩
set_option maxRecDepth 100000 in
theorem d_M_moveAll_44 : Dc m_M_moveAll 44 (.invokevirtual 371) 3 47 := ⟨by decide +kernel, rfl⟩
set_option maxRecDepth 100000 in
theorem d_M_moveAll_47 : Dc m_M_moveAll 47 (.aload_n 0) 1 48 := ⟨by decide +kernel, rfl⟩
set_option maxRecDepth 100000 in
theorem d_M_moveAll_48 : Dc m_M_moveAll 48 (.aload_n 0) 1 49 := ⟨by decide +kernel, rfl⟩
set_option maxRecDepth 100000 in
theorem d_M_moveAll_49 : Dc m_M_moveAll 49 (.getfield 13) 3 52 := ⟨by decide +kernel, rfl⟩
set_option maxRecDepth 100000 in
theorem d_M_moveAll_52 : Dc m_M_moveAll 52 (.iconst 3) 1 53 := ⟨by decide +kernel, rfl⟩
set_option maxRecDepth 100000 in
theorem d_M_moveAll_53 : Dc m_M_moveAll 53 (.iload_n 1) 1 54 := ⟨by decide +kernel, rfl⟩
set_option maxRecDepth 100000 in
theorem d_M_moveAll_54 : Dc m_M_moveAll 54 (.invokevirtual 371) 3 57 := ⟨by decide +kernel, rfl⟩
set_option maxRecDepth 100000 in
theorem d_M_moveAll_57 : Dc m_M_moveAll 57 (.aload_n 0) 1 58 := ⟨by decide +kernel, rfl⟩
set_option maxRecDepth 100000 in
theorem d_M_moveAll_58 : Dc m_M_moveAll 58 (.aload_n 0) 1 59 := ⟨by decide +kernel, rfl⟩
set_option maxRecDepth 100000 in
theorem d_M_moveAll_59 : Dc m_M_moveAll 59 (.getfield 32) 3 62 := ⟨by decide +kernel, rfl⟩
set_option maxRecDepth 100000 in
theorem d_M_moveAll_62 : Dc m_M_moveAll 62 (.bipush (36)) 2 64 := ⟨by decide +kernel, rfl⟩
set_option maxRecDepth 100000 in
theorem d_M_moveAll_64 : Dc m_M_moveAll 64 (.iload_n 1) 1 65 := ⟨by decide +kernel, rfl⟩
set_option maxRecDepth 100000 in
theorem d_M_moveAll_65 : Dc m_M_moveAll 65 (.invokevirtual 371) 3 68 := ⟨by decide +kernel, rfl⟩
set_option maxRecDepth 100000 in
theorem d_M_moveAll_68 : Dc m_M_moveAll 68 .return_ 1 69 := ⟨by decide +kernel, rfl⟩
set_option maxRecDepth 100000 in
theorem d_M_keep_0 : Dc m_M_keep 0 (.aload_n 0) 1 1 := ⟨by decide +kernel, rfl⟩
set_option maxRecDepth 100000 in
theorem d_M_keep_1 : Dc m_M_keep 1 (.iconst 1) 1 2 := ⟨by decide +kernel, rfl⟩
set_option maxRecDepth 100000 in
theorem d_M_keep_2 : Dc m_M_keep 2 (.invokevirtual 375) 3 5 := ⟨by decide +kernel, rfl⟩
set_option maxRecDepth 100000 in
theorem d_M_keep_5 : Dc m_M_keep 5 (.aload_n 0) 1 6 := ⟨by decide +kernel, rfl⟩
set_option maxRecDepth 100000 in
theorem d_M_keep_6 : Dc m_M_keep 6 (.iconst 1) 1 7 := ⟨by decide +kernel, rfl⟩
set_option maxRecDepth 100000 in
theorem d_M_keep_7 : Dc m_M_keep 7 (.putfield 379) 3 10 := ⟨by decide +kernel, rfl⟩
set_option maxRecDepth 100000 in
theorem d_M_keep_10 : Dc m_M_keep 10 (.iconst 1) 1 11 := ⟨by decide +kernel, rfl⟩
set_option maxRecDepth 100000 in
theorem d_M_keep_11 : Dc m_M_keep 11 .ireturn 1 12 := ⟨by decide +kernel, rfl⟩
set_option maxRecDepth 100000 in
theorem d_M_again_0 : Dc m_M_again 0 (.aload_n 0) 1 1 := ⟨by decide +kernel, rfl⟩
set_option maxRecDepth 100000 in
theorem d_M_again_1 : Dc m_M_again 1 (.getfield 379) 3 4 := ⟨by decide +kernel, rfl⟩
set_option maxRecDepth 100000 in
theorem d_M_again_4 : Dj m_M_again 4 (.ifCond .ne) 7 10 := ⟨6, by decide +kernel, rfl, by decide⟩
set_option maxRecDepth 100000 in
theorem d_M_again_7 : Dc m_M_again 7 (.bipush (-3)) 2 9 := ⟨by decide +kernel, rfl⟩
set_option maxRecDepth 100000 in
theorem d_M_again_9 : Dc m_M_again 9 .ireturn 1 10 := ⟨by decide +kernel, rfl⟩
set_option maxRecDepth 100000 in
theorem d_M_again_10 : Dc m_M_again 10 (.aload_n 0) 1 11 := ⟨by decide +kernel, rfl⟩
set_option maxRecDepth 100000 in
theorem d_M_again_11 : Dc m_M_again 11 (.iconst 0) 1 12 := ⟨by decide +kernel, rfl⟩
set_option maxRecDepth 100000 in
theorem d_M_again_12 : Dc m_M_again 12 (.invokevirtual 375) 3 15 := ⟨by decide +kernel, rfl⟩
set_option maxRecDepth 100000 in
theorem d_M_again_15 : Dc m_M_again 15 (.aload_n 0) 1 16 := ⟨by decide +kernel, rfl⟩
set_option maxRecDepth 100000 in
theorem d_M_again_16 : Dc m_M_again 16 (.aload_n 0) 1 17 := ⟨by decide +kernel, rfl⟩
set_option maxRecDepth 100000 in
theorem d_M_again_17 : Dc m_M_again 17 (.getfield 69) 3 20 := ⟨by decide +kernel, rfl⟩
set_option maxRecDepth 100000 in
theorem d_M_again_20 : Dc m_M_again 20 (.iconst 0) 1 21 := ⟨by decide +kernel, rfl⟩
set_option maxRecDepth 100000 in
theorem d_M_again_21 : Dc m_M_again 21 .iaload 1 22 := ⟨by decide +kernel, rfl⟩
set_option maxRecDepth 100000 in
theorem d_M_again_22 : Dc m_M_again 22 (.putfield 19) 3 25 := ⟨by decide +kernel, rfl⟩
set_option maxRecDepth 100000 in
theorem d_M_again_25 : Dc m_M_again 25 (.aload_n 0) 1 26 := ⟨by decide +kernel, rfl⟩
set_option maxRecDepth 100000 in
theorem d_M_again_26 : Dc m_M_again 26 (.aload_n 0) 1 27 := ⟨by decide +kernel, rfl⟩
set_option maxRecDepth 100000 in
theorem d_M_again_27 : Dc m_M_again 27 (.getfield 69) 3 30 := ⟨by decide +kernel, rfl⟩
set_option maxRecDepth 100000 in
theorem d_M_again_30 : Dc m_M_again 30 (.iconst 1) 1 31 := ⟨by decide +kernel, rfl⟩
set_option maxRecDepth 100000 in
theorem d_M_again_31 : Dc m_M_again 31 .iaload 1 32 := ⟨by decide +kernel, rfl⟩
set_option maxRecDepth 100000 in
theorem d_M_again_32 : Dc m_M_again 32 (.putfield 288) 3 35 := ⟨by decide +kernel, rfl⟩
set_option maxRecDepth 100000 in
theorem d_M_again_35 : Dc m_M_again 35 (.aload_n 0) 1 36 := ⟨by decide +kernel, rfl⟩
set_option maxRecDepth 100000 in
theorem d_M_again_36 : Dc m_M_again 36 (.getfield 7) 3 39 := ⟨by decide +kernel, rfl⟩
set_option maxRecDepth 100000 in
theorem d_M_again_39 : Dc m_M_again 39 (.iconst 0) 1 40 := ⟨by decide +kernel, rfl⟩
set_option maxRecDepth 100000 in
theorem d_M_again_40 : Dc m_M_again 40 .iaload 1 41 := ⟨by decide +kernel, rfl⟩
set_option maxRecDepth 100000 in
theorem d_M_again_41 : Dc m_M_again 41 .ireturn 1 42 := ⟨by decide +kernel, rfl⟩
