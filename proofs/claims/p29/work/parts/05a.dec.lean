/-! decode rows -/
theorem dX0_init_0 : decode cX0_init 0 = .ok (.aload_n 0, 1) := by decide +kernel
theorem dX0_init_1 : decode cX0_init 1 = .ok (.invokespecial 3, 3) := by decide +kernel
theorem dX0_init_4 : decode cX0_init 4 = .ok (.aload_n 0, 1) := by decide +kernel
theorem dX0_init_5 : decode cX0_init 5 = .ok (.iconst 4, 1) := by decide +kernel
theorem dX0_init_6 : decode cX0_init 6 = .ok (.putfield 9, 3) := by decide +kernel
theorem dX0_init_9 : decode cX0_init 9 = .ok (.aload_n 0, 1) := by decide +kernel
theorem dX0_init_10 : decode cX0_init 10 = .ok (.bipush 40, 2) := by decide +kernel
theorem dX0_init_12 : decode cX0_init 12 = .ok (.newarray .int, 2) := by decide +kernel
theorem dX0_init_14 : decode cX0_init 14 = .ok (.putfield 15, 3) := by decide +kernel
theorem dX0_init_17 : decode cX0_init 17 = .ok (.aload_n 0, 1) := by decide +kernel
theorem dX0_init_18 : decode cX0_init 18 = .ok (.bipush 40, 2) := by decide +kernel
theorem dX0_init_20 : decode cX0_init 20 = .ok (.newarray .int, 2) := by decide +kernel
theorem dX0_init_22 : decode cX0_init 22 = .ok (.putfield 19, 3) := by decide +kernel
theorem dX0_init_25 : decode cX0_init 25 = .ok (.aload_n 0, 1) := by decide +kernel
theorem dX0_init_26 : decode cX0_init 26 = .ok (.bipush 40, 2) := by decide +kernel
theorem dX0_init_28 : decode cX0_init 28 = .ok (.newarray .int, 2) := by decide +kernel
theorem dX0_init_30 : decode cX0_init 30 = .ok (.putfield 22, 3) := by decide +kernel
theorem dX0_init_33 : decode cX0_init 33 = .ok (.aload_n 0, 1) := by decide +kernel
theorem dX0_init_34 : decode cX0_init 34 = .ok (.bipush 40, 2) := by decide +kernel
theorem dX0_init_36 : decode cX0_init 36 = .ok (.newarray .int, 2) := by decide +kernel
theorem dX0_init_38 : decode cX0_init 38 = .ok (.putfield 25, 3) := by decide +kernel
theorem dX0_init_41 : decode cX0_init 41 = .ok (.aload_n 0, 1) := by decide +kernel
theorem dX0_init_42 : decode cX0_init 42 = .ok (.bipush 40, 2) := by decide +kernel
theorem dX0_init_44 : decode cX0_init 44 = .ok (.newarray .int, 2) := by decide +kernel
theorem dX0_init_46 : decode cX0_init 46 = .ok (.putfield 28, 3) := by decide +kernel
theorem dX0_init_49 : decode cX0_init 49 = .ok (.aload_n 0, 1) := by decide +kernel
theorem dX0_init_50 : decode cX0_init 50 = .ok (.bipush 40, 2) := by decide +kernel
theorem dX0_init_52 : decode cX0_init 52 = .ok (.newarray .int, 2) := by decide +kernel
theorem dX0_init_54 : decode cX0_init 54 = .ok (.putfield 31, 3) := by decide +kernel
theorem dX0_init_57 : decode cX0_init 57 = .ok (.aload_n 0, 1) := by decide +kernel
theorem dX0_init_58 : decode cX0_init 58 = .ok (.bipush 40, 2) := by decide +kernel
theorem dX0_init_60 : decode cX0_init 60 = .ok (.newarray .int, 2) := by decide +kernel
theorem dX0_init_62 : decode cX0_init 62 = .ok (.putfield 34, 3) := by decide +kernel
theorem dX0_init_65 : decode cX0_init 65 = .ok (.aload_n 0, 1) := by decide +kernel
theorem dX0_init_66 : decode cX0_init 66 = .ok (.bipush 40, 2) := by decide +kernel
theorem dX0_init_68 : decode cX0_init 68 = .ok (.newarray .boolean, 2) := by decide +kernel
theorem dX0_init_70 : decode cX0_init 70 = .ok (.putfield 37, 3) := by decide +kernel
theorem dX0_init_73 : decode cX0_init 73 = .ok (.return_, 1) := by decide +kernel
theorem dX0_restart_0 : decode cX0_restart 0 = .ok (.aload_n 0, 1) := by decide +kernel
theorem dX0_restart_1 : decode cX0_restart 1 = .ok (.iload_n 1, 1) := by decide +kernel
theorem dX0_restart_2 : decode cX0_restart 2 = .ok (.putfield 9, 3) := by decide +kernel
theorem dX0_restart_5 : decode cX0_restart 5 = .ok (.aload_n 0, 1) := by decide +kernel
theorem dX0_restart_6 : decode cX0_restart 6 = .ok (.iconst 0, 1) := by decide +kernel
theorem dX0_restart_7 : decode cX0_restart 7 = .ok (.putfield 41, 3) := by decide +kernel
theorem dX0_restart_10 : decode cX0_restart 10 = .ok (.aload_n 0, 1) := by decide +kernel
theorem dX0_restart_11 : decode cX0_restart 11 = .ok (.iconst 0, 1) := by decide +kernel
theorem dX0_restart_12 : decode cX0_restart 12 = .ok (.putfield 44, 3) := by decide +kernel
theorem dX0_restart_15 : decode cX0_restart 15 = .ok (.aload_n 0, 1) := by decide +kernel
theorem dX0_restart_16 : decode cX0_restart 16 = .ok (.iconst 0, 1) := by decide +kernel
theorem dX0_restart_17 : decode cX0_restart 17 = .ok (.putfield 47, 3) := by decide +kernel
theorem dX0_restart_20 : decode cX0_restart 20 = .ok (.aload_n 0, 1) := by decide +kernel
theorem dX0_restart_21 : decode cX0_restart 21 = .ok (.iconst 0, 1) := by decide +kernel
theorem dX0_restart_22 : decode cX0_restart 22 = .ok (.putfield 50, 3) := by decide +kernel
theorem dX0_restart_25 : decode cX0_restart 25 = .ok (.return_, 1) := by decide +kernel
theorem dX0_copyFrom_0 : decode cX0_copyFrom 0 = .ok (.aload_n 0, 1) := by decide +kernel
theorem dX0_copyFrom_1 : decode cX0_copyFrom 1 = .ok (.aload_n 1, 1) := by decide +kernel
theorem dX0_copyFrom_2 : decode cX0_copyFrom 2 = .ok (.getfield 9, 3) := by decide +kernel
theorem dX0_copyFrom_5 : decode cX0_copyFrom 5 = .ok (.putfield 9, 3) := by decide +kernel
theorem dX0_copyFrom_8 : decode cX0_copyFrom 8 = .ok (.aload_n 0, 1) := by decide +kernel
theorem dX0_copyFrom_9 : decode cX0_copyFrom 9 = .ok (.aload_n 1, 1) := by decide +kernel
theorem dX0_copyFrom_10 : decode cX0_copyFrom 10 = .ok (.getfield 41, 3) := by decide +kernel
theorem dX0_copyFrom_13 : decode cX0_copyFrom 13 = .ok (.putfield 41, 3) := by decide +kernel
theorem dX0_copyFrom_16 : decode cX0_copyFrom 16 = .ok (.aload_n 0, 1) := by decide +kernel
theorem dX0_copyFrom_17 : decode cX0_copyFrom 17 = .ok (.aload_n 1, 1) := by decide +kernel
theorem dX0_copyFrom_18 : decode cX0_copyFrom 18 = .ok (.getfield 44, 3) := by decide +kernel
theorem dX0_copyFrom_21 : decode cX0_copyFrom 21 = .ok (.putfield 44, 3) := by decide +kernel
theorem dX0_copyFrom_24 : decode cX0_copyFrom 24 = .ok (.aload_n 0, 1) := by decide +kernel
theorem dX0_copyFrom_25 : decode cX0_copyFrom 25 = .ok (.aload_n 1, 1) := by decide +kernel
theorem dX0_copyFrom_26 : decode cX0_copyFrom 26 = .ok (.getfield 47, 3) := by decide +kernel
theorem dX0_copyFrom_29 : decode cX0_copyFrom 29 = .ok (.putfield 47, 3) := by decide +kernel
theorem dX0_copyFrom_32 : decode cX0_copyFrom 32 = .ok (.aload_n 0, 1) := by decide +kernel
theorem dX0_copyFrom_33 : decode cX0_copyFrom 33 = .ok (.aload_n 1, 1) := by decide +kernel
theorem dX0_copyFrom_34 : decode cX0_copyFrom 34 = .ok (.getfield 50, 3) := by decide +kernel
theorem dX0_copyFrom_37 : decode cX0_copyFrom 37 = .ok (.putfield 50, 3) := by decide +kernel
theorem dX0_copyFrom_40 : decode cX0_copyFrom 40 = .ok (.aload_n 1, 1) := by decide +kernel
theorem dX0_copyFrom_41 : decode cX0_copyFrom 41 = .ok (.getfield 15, 3) := by decide +kernel
theorem dX0_copyFrom_44 : decode cX0_copyFrom 44 = .ok (.iconst 0, 1) := by decide +kernel
theorem dX0_copyFrom_45 : decode cX0_copyFrom 45 = .ok (.aload_n 0, 1) := by decide +kernel
theorem dX0_copyFrom_46 : decode cX0_copyFrom 46 = .ok (.getfield 15, 3) := by decide +kernel
theorem dX0_copyFrom_49 : decode cX0_copyFrom 49 = .ok (.iconst 0, 1) := by decide +kernel
theorem dX0_copyFrom_50 : decode cX0_copyFrom 50 = .ok (.bipush 40, 2) := by decide +kernel
theorem dX0_copyFrom_52 : decode cX0_copyFrom 52 = .ok (.invokestatic 53, 3) := by decide +kernel
theorem dX0_copyFrom_55 : decode cX0_copyFrom 55 = .ok (.aload_n 1, 1) := by decide +kernel
theorem dX0_copyFrom_56 : decode cX0_copyFrom 56 = .ok (.getfield 19, 3) := by decide +kernel
theorem dX0_copyFrom_59 : decode cX0_copyFrom 59 = .ok (.iconst 0, 1) := by decide +kernel
theorem dX0_copyFrom_60 : decode cX0_copyFrom 60 = .ok (.aload_n 0, 1) := by decide +kernel
theorem dX0_copyFrom_61 : decode cX0_copyFrom 61 = .ok (.getfield 19, 3) := by decide +kernel
theorem dX0_copyFrom_64 : decode cX0_copyFrom 64 = .ok (.iconst 0, 1) := by decide +kernel
theorem dX0_copyFrom_65 : decode cX0_copyFrom 65 = .ok (.bipush 40, 2) := by decide +kernel
theorem dX0_copyFrom_67 : decode cX0_copyFrom 67 = .ok (.invokestatic 53, 3) := by decide +kernel
theorem dX0_copyFrom_70 : decode cX0_copyFrom 70 = .ok (.aload_n 1, 1) := by decide +kernel
theorem dX0_copyFrom_71 : decode cX0_copyFrom 71 = .ok (.getfield 22, 3) := by decide +kernel
theorem dX0_copyFrom_74 : decode cX0_copyFrom 74 = .ok (.iconst 0, 1) := by decide +kernel
theorem dX0_copyFrom_75 : decode cX0_copyFrom 75 = .ok (.aload_n 0, 1) := by decide +kernel
theorem dX0_copyFrom_76 : decode cX0_copyFrom 76 = .ok (.getfield 22, 3) := by decide +kernel
theorem dX0_copyFrom_79 : decode cX0_copyFrom 79 = .ok (.iconst 0, 1) := by decide +kernel
theorem dX0_copyFrom_80 : decode cX0_copyFrom 80 = .ok (.bipush 40, 2) := by decide +kernel
theorem dX0_copyFrom_82 : decode cX0_copyFrom 82 = .ok (.invokestatic 53, 3) := by decide +kernel
theorem dX0_copyFrom_85 : decode cX0_copyFrom 85 = .ok (.aload_n 1, 1) := by decide +kernel
theorem dX0_copyFrom_86 : decode cX0_copyFrom 86 = .ok (.getfield 25, 3) := by decide +kernel
theorem dX0_copyFrom_89 : decode cX0_copyFrom 89 = .ok (.iconst 0, 1) := by decide +kernel
theorem dX0_copyFrom_90 : decode cX0_copyFrom 90 = .ok (.aload_n 0, 1) := by decide +kernel
theorem dX0_copyFrom_91 : decode cX0_copyFrom 91 = .ok (.getfield 25, 3) := by decide +kernel
theorem dX0_copyFrom_94 : decode cX0_copyFrom 94 = .ok (.iconst 0, 1) := by decide +kernel
theorem dX0_copyFrom_95 : decode cX0_copyFrom 95 = .ok (.bipush 40, 2) := by decide +kernel
theorem dX0_copyFrom_97 : decode cX0_copyFrom 97 = .ok (.invokestatic 53, 3) := by decide +kernel
theorem dX0_copyFrom_100 : decode cX0_copyFrom 100 = .ok (.aload_n 1, 1) := by decide +kernel
theorem dX0_copyFrom_101 : decode cX0_copyFrom 101 = .ok (.getfield 28, 3) := by decide +kernel
theorem dX0_copyFrom_104 : decode cX0_copyFrom 104 = .ok (.iconst 0, 1) := by decide +kernel
theorem dX0_copyFrom_105 : decode cX0_copyFrom 105 = .ok (.aload_n 0, 1) := by decide +kernel
theorem dX0_copyFrom_106 : decode cX0_copyFrom 106 = .ok (.getfield 28, 3) := by decide +kernel
theorem dX0_copyFrom_109 : decode cX0_copyFrom 109 = .ok (.iconst 0, 1) := by decide +kernel
theorem dX0_copyFrom_110 : decode cX0_copyFrom 110 = .ok (.bipush 40, 2) := by decide +kernel
theorem dX0_copyFrom_112 : decode cX0_copyFrom 112 = .ok (.invokestatic 53, 3) := by decide +kernel
theorem dX0_copyFrom_115 : decode cX0_copyFrom 115 = .ok (.aload_n 1, 1) := by decide +kernel
theorem dX0_copyFrom_116 : decode cX0_copyFrom 116 = .ok (.getfield 31, 3) := by decide +kernel
theorem dX0_copyFrom_119 : decode cX0_copyFrom 119 = .ok (.iconst 0, 1) := by decide +kernel
theorem dX0_copyFrom_120 : decode cX0_copyFrom 120 = .ok (.aload_n 0, 1) := by decide +kernel
theorem dX0_copyFrom_121 : decode cX0_copyFrom 121 = .ok (.getfield 31, 3) := by decide +kernel
theorem dX0_copyFrom_124 : decode cX0_copyFrom 124 = .ok (.iconst 0, 1) := by decide +kernel
theorem dX0_copyFrom_125 : decode cX0_copyFrom 125 = .ok (.bipush 40, 2) := by decide +kernel
theorem dX0_copyFrom_127 : decode cX0_copyFrom 127 = .ok (.invokestatic 53, 3) := by decide +kernel
theorem dX0_copyFrom_130 : decode cX0_copyFrom 130 = .ok (.aload_n 1, 1) := by decide +kernel
theorem dX0_copyFrom_131 : decode cX0_copyFrom 131 = .ok (.getfield 34, 3) := by decide +kernel
theorem dX0_copyFrom_134 : decode cX0_copyFrom 134 = .ok (.iconst 0, 1) := by decide +kernel
theorem dX0_copyFrom_135 : decode cX0_copyFrom 135 = .ok (.aload_n 0, 1) := by decide +kernel
theorem dX0_copyFrom_136 : decode cX0_copyFrom 136 = .ok (.getfield 34, 3) := by decide +kernel
theorem dX0_copyFrom_139 : decode cX0_copyFrom 139 = .ok (.iconst 0, 1) := by decide +kernel
theorem dX0_copyFrom_140 : decode cX0_copyFrom 140 = .ok (.bipush 40, 2) := by decide +kernel
theorem dX0_copyFrom_142 : decode cX0_copyFrom 142 = .ok (.invokestatic 53, 3) := by decide +kernel
theorem dX0_copyFrom_145 : decode cX0_copyFrom 145 = .ok (.iconst 0, 1) := by decide +kernel
theorem dX0_copyFrom_146 : decode cX0_copyFrom 146 = .ok (.istore_n 2, 1) := by decide +kernel
theorem dX0_copyFrom_147 : decode cX0_copyFrom 147 = .ok (.iload_n 2, 1) := by decide +kernel
theorem dX0_copyFrom_148 : decode cX0_copyFrom 148 = .ok (.bipush 40, 2) := by decide +kernel
theorem dX0_copyFrom_150 : decode cX0_copyFrom 150 = .ok (.if_icmp .ge 21, 3) := by decide +kernel
theorem dX0_copyFrom_153 : decode cX0_copyFrom 153 = .ok (.aload_n 0, 1) := by decide +kernel
theorem dX0_copyFrom_154 : decode cX0_copyFrom 154 = .ok (.getfield 37, 3) := by decide +kernel
theorem dX0_copyFrom_157 : decode cX0_copyFrom 157 = .ok (.iload_n 2, 1) := by decide +kernel
theorem dX0_copyFrom_158 : decode cX0_copyFrom 158 = .ok (.aload_n 1, 1) := by decide +kernel
theorem dX0_copyFrom_159 : decode cX0_copyFrom 159 = .ok (.getfield 37, 3) := by decide +kernel
theorem dX0_copyFrom_162 : decode cX0_copyFrom 162 = .ok (.iload_n 2, 1) := by decide +kernel
theorem dX0_copyFrom_163 : decode cX0_copyFrom 163 = .ok (.baload, 1) := by decide +kernel
theorem dX0_copyFrom_164 : decode cX0_copyFrom 164 = .ok (.bastore, 1) := by decide +kernel
theorem dX0_copyFrom_165 : decode cX0_copyFrom 165 = .ok (.iinc 2 1, 3) := by decide +kernel
theorem dX0_copyFrom_168 : decode cX0_copyFrom 168 = .ok (.goto (-21), 3) := by decide +kernel
theorem dX0_copyFrom_171 : decode cX0_copyFrom 171 = .ok (.return_, 1) := by decide +kernel
theorem dX0_hasParty_0 : decode cX0_hasParty 0 = .ok (.iload_n 1, 1) := by decide +kernel
theorem dX0_hasParty_1 : decode cX0_hasParty 1 = .ok (.ifCond .lt 15, 3) := by decide +kernel
theorem dX0_hasParty_4 : decode cX0_hasParty 4 = .ok (.iload_n 1, 1) := by decide +kernel
theorem dX0_hasParty_5 : decode cX0_hasParty 5 = .ok (.aload_n 0, 1) := by decide +kernel
theorem dX0_hasParty_6 : decode cX0_hasParty 6 = .ok (.getfield 9, 3) := by decide +kernel
theorem dX0_hasParty_9 : decode cX0_hasParty 9 = .ok (.if_icmp .ge 7, 3) := by decide +kernel
theorem dX0_hasParty_12 : decode cX0_hasParty 12 = .ok (.iconst 1, 1) := by decide +kernel
theorem dX0_hasParty_13 : decode cX0_hasParty 13 = .ok (.goto 4, 3) := by decide +kernel
theorem dX0_hasParty_16 : decode cX0_hasParty 16 = .ok (.iconst 0, 1) := by decide +kernel
theorem dX0_hasParty_17 : decode cX0_hasParty 17 = .ok (.ireturn, 1) := by decide +kernel
theorem dX0_holds_0 : decode cX0_holds 0 = .ok (.iload_n 1, 1) := by decide +kernel
theorem dX0_holds_1 : decode cX0_holds 1 = .ok (.ifCond .lt 15, 3) := by decide +kernel
theorem dX0_holds_4 : decode cX0_holds 4 = .ok (.iload_n 1, 1) := by decide +kernel
theorem dX0_holds_5 : decode cX0_holds 5 = .ok (.aload_n 0, 1) := by decide +kernel
theorem dX0_holds_6 : decode cX0_holds 6 = .ok (.getfield 41, 3) := by decide +kernel
theorem dX0_holds_9 : decode cX0_holds 9 = .ok (.if_icmp .ge 7, 3) := by decide +kernel
theorem dX0_holds_12 : decode cX0_holds 12 = .ok (.iconst 1, 1) := by decide +kernel
theorem dX0_holds_13 : decode cX0_holds 13 = .ok (.goto 4, 3) := by decide +kernel
theorem dX0_holds_16 : decode cX0_holds 16 = .ok (.iconst 0, 1) := by decide +kernel
theorem dX0_holds_17 : decode cX0_holds 17 = .ok (.ireturn, 1) := by decide +kernel
theorem dX0_isFull_0 : decode cX0_isFull 0 = .ok (.aload_n 0, 1) := by decide +kernel
theorem dX0_isFull_1 : decode cX0_isFull 1 = .ok (.getfield 41, 3) := by decide +kernel
theorem dX0_isFull_4 : decode cX0_isFull 4 = .ok (.bipush 40, 2) := by decide +kernel
theorem dX0_isFull_6 : decode cX0_isFull 6 = .ok (.if_icmp .lt 7, 3) := by decide +kernel
theorem dX0_isFull_9 : decode cX0_isFull 9 = .ok (.iconst 1, 1) := by decide +kernel
theorem dX0_isFull_10 : decode cX0_isFull 10 = .ok (.goto 4, 3) := by decide +kernel
theorem dX0_isFull_13 : decode cX0_isFull 13 = .ok (.iconst 0, 1) := by decide +kernel
theorem dX0_isFull_14 : decode cX0_isFull 14 = .ok (.ireturn, 1) := by decide +kernel
theorem dX0_add_0 : decode cX0_add 0 = .ok (.aload_n 0, 1) := by decide +kernel
theorem dX0_add_1 : decode cX0_add 1 = .ok (.getfield 41, 3) := by decide +kernel
theorem dX0_add_4 : decode cX0_add 4 = .ok (.istore 5, 2) := by decide +kernel
theorem dX0_add_6 : decode cX0_add 6 = .ok (.iload 5, 2) := by decide +kernel
theorem dX0_add_8 : decode cX0_add 8 = .ok (.invokestatic 59, 3) := by decide +kernel
theorem dX0_add_11 : decode cX0_add 11 = .ok (.ifCond .ne 5, 3) := by decide +kernel
theorem dX0_add_14 : decode cX0_add 14 = .ok (.iconst (-1), 1) := by decide +kernel
theorem dX0_add_15 : decode cX0_add 15 = .ok (.ireturn, 1) := by decide +kernel
theorem dX0_add_16 : decode cX0_add 16 = .ok (.aload_n 0, 1) := by decide +kernel
theorem dX0_add_17 : decode cX0_add 17 = .ok (.getfield 15, 3) := by decide +kernel
theorem dX0_add_20 : decode cX0_add 20 = .ok (.iload 5, 2) := by decide +kernel
theorem dX0_add_22 : decode cX0_add 22 = .ok (.iload_n 1, 1) := by decide +kernel
theorem dX0_add_23 : decode cX0_add 23 = .ok (.iastore, 1) := by decide +kernel
theorem dX0_add_24 : decode cX0_add 24 = .ok (.aload_n 0, 1) := by decide +kernel
theorem dX0_add_25 : decode cX0_add 25 = .ok (.getfield 19, 3) := by decide +kernel
theorem dX0_add_28 : decode cX0_add 28 = .ok (.iload 5, 2) := by decide +kernel
theorem dX0_add_30 : decode cX0_add 30 = .ok (.iload_n 2, 1) := by decide +kernel
theorem dX0_add_31 : decode cX0_add 31 = .ok (.iastore, 1) := by decide +kernel
theorem dX0_add_32 : decode cX0_add 32 = .ok (.aload_n 0, 1) := by decide +kernel
theorem dX0_add_33 : decode cX0_add 33 = .ok (.getfield 22, 3) := by decide +kernel
theorem dX0_add_36 : decode cX0_add 36 = .ok (.iload 5, 2) := by decide +kernel
theorem dX0_add_38 : decode cX0_add 38 = .ok (.iload_n 3, 1) := by decide +kernel
theorem dX0_add_39 : decode cX0_add 39 = .ok (.iastore, 1) := by decide +kernel
theorem dX0_add_40 : decode cX0_add 40 = .ok (.aload_n 0, 1) := by decide +kernel
theorem dX0_add_41 : decode cX0_add 41 = .ok (.getfield 25, 3) := by decide +kernel
theorem dX0_add_44 : decode cX0_add 44 = .ok (.iload 5, 2) := by decide +kernel
theorem dX0_add_46 : decode cX0_add 46 = .ok (.iload 4, 2) := by decide +kernel
theorem dX0_add_48 : decode cX0_add 48 = .ok (.iastore, 1) := by decide +kernel
theorem dX0_add_49 : decode cX0_add 49 = .ok (.aload_n 0, 1) := by decide +kernel
theorem dX0_add_50 : decode cX0_add 50 = .ok (.getfield 28, 3) := by decide +kernel
theorem dX0_add_53 : decode cX0_add 53 = .ok (.iload 5, 2) := by decide +kernel
theorem dX0_add_55 : decode cX0_add 55 = .ok (.iload_n 3, 1) := by decide +kernel
theorem dX0_add_56 : decode cX0_add 56 = .ok (.iastore, 1) := by decide +kernel
theorem dX0_add_57 : decode cX0_add 57 = .ok (.aload_n 0, 1) := by decide +kernel
theorem dX0_add_58 : decode cX0_add 58 = .ok (.getfield 31, 3) := by decide +kernel
theorem dX0_add_61 : decode cX0_add 61 = .ok (.iload 5, 2) := by decide +kernel
theorem dX0_add_63 : decode cX0_add 63 = .ok (.iconst 0, 1) := by decide +kernel
theorem dX0_add_64 : decode cX0_add 64 = .ok (.iastore, 1) := by decide +kernel
theorem dX0_add_65 : decode cX0_add 65 = .ok (.aload_n 0, 1) := by decide +kernel
theorem dX0_add_66 : decode cX0_add 66 = .ok (.getfield 34, 3) := by decide +kernel
theorem dX0_add_69 : decode cX0_add 69 = .ok (.iload 5, 2) := by decide +kernel
theorem dX0_add_71 : decode cX0_add 71 = .ok (.iconst 0, 1) := by decide +kernel
theorem dX0_add_72 : decode cX0_add 72 = .ok (.iastore, 1) := by decide +kernel
theorem dX0_add_73 : decode cX0_add 73 = .ok (.aload_n 0, 1) := by decide +kernel
theorem dX0_add_74 : decode cX0_add 74 = .ok (.getfield 37, 3) := by decide +kernel
theorem dX0_add_77 : decode cX0_add 77 = .ok (.iload 5, 2) := by decide +kernel
theorem dX0_add_79 : decode cX0_add 79 = .ok (.iconst 0, 1) := by decide +kernel
theorem dX0_add_80 : decode cX0_add 80 = .ok (.bastore, 1) := by decide +kernel
theorem dX0_add_81 : decode cX0_add 81 = .ok (.aload_n 0, 1) := by decide +kernel
theorem dX0_add_82 : decode cX0_add 82 = .ok (.dup, 1) := by decide +kernel
theorem dX0_add_83 : decode cX0_add 83 = .ok (.getfield 41, 3) := by decide +kernel
theorem dX0_add_86 : decode cX0_add 86 = .ok (.iconst 1, 1) := by decide +kernel
theorem dX0_add_87 : decode cX0_add 87 = .ok (.iadd, 1) := by decide +kernel
theorem dX0_add_88 : decode cX0_add 88 = .ok (.putfield 41, 3) := by decide +kernel
theorem dX0_add_91 : decode cX0_add 91 = .ok (.iload 5, 2) := by decide +kernel
theorem dX0_add_93 : decode cX0_add 93 = .ok (.ireturn, 1) := by decide +kernel
theorem dX0_payPart_0 : decode cX0_payPart 0 = .ok (.aload_n 0, 1) := by decide +kernel
theorem dX0_payPart_1 : decode cX0_payPart 1 = .ok (.iload_n 1, 1) := by decide +kernel
theorem dX0_payPart_2 : decode cX0_payPart 2 = .ok (.invokevirtual 63, 3) := by decide +kernel
theorem dX0_payPart_5 : decode cX0_payPart 5 = .ok (.ifCond .eq 33, 3) := by decide +kernel
theorem dX0_payPart_8 : decode cX0_payPart 8 = .ok (.aload_n 0, 1) := by decide +kernel
theorem dX0_payPart_9 : decode cX0_payPart 9 = .ok (.getfield 22, 3) := by decide +kernel
theorem dX0_payPart_12 : decode cX0_payPart 12 = .ok (.iload_n 1, 1) := by decide +kernel
theorem dX0_payPart_13 : decode cX0_payPart 13 = .ok (.dup2, 1) := by decide +kernel
theorem dX0_payPart_14 : decode cX0_payPart 14 = .ok (.iaload, 1) := by decide +kernel
theorem dX0_payPart_15 : decode cX0_payPart 15 = .ok (.iload_n 2, 1) := by decide +kernel
theorem dX0_payPart_16 : decode cX0_payPart 16 = .ok (.isub, 1) := by decide +kernel
theorem dX0_payPart_17 : decode cX0_payPart 17 = .ok (.iastore, 1) := by decide +kernel
theorem dX0_payPart_18 : decode cX0_payPart 18 = .ok (.aload_n 0, 1) := by decide +kernel
theorem dX0_payPart_19 : decode cX0_payPart 19 = .ok (.getfield 31, 3) := by decide +kernel
theorem dX0_payPart_22 : decode cX0_payPart 22 = .ok (.iload_n 1, 1) := by decide +kernel
theorem dX0_payPart_23 : decode cX0_payPart 23 = .ok (.dup2, 1) := by decide +kernel
theorem dX0_payPart_24 : decode cX0_payPart 24 = .ok (.iaload, 1) := by decide +kernel
theorem dX0_payPart_25 : decode cX0_payPart 25 = .ok (.iload_n 2, 1) := by decide +kernel
theorem dX0_payPart_26 : decode cX0_payPart 26 = .ok (.iadd, 1) := by decide +kernel
theorem dX0_payPart_27 : decode cX0_payPart 27 = .ok (.iastore, 1) := by decide +kernel
theorem dX0_payPart_28 : decode cX0_payPart 28 = .ok (.aload_n 0, 1) := by decide +kernel
theorem dX0_payPart_29 : decode cX0_payPart 29 = .ok (.dup, 1) := by decide +kernel
theorem dX0_payPart_30 : decode cX0_payPart 30 = .ok (.getfield 44, 3) := by decide +kernel
theorem dX0_payPart_33 : decode cX0_payPart 33 = .ok (.iload_n 2, 1) := by decide +kernel
theorem dX0_payPart_34 : decode cX0_payPart 34 = .ok (.iadd, 1) := by decide +kernel
theorem dX0_payPart_35 : decode cX0_payPart 35 = .ok (.putfield 44, 3) := by decide +kernel
theorem dX0_payPart_38 : decode cX0_payPart 38 = .ok (.return_, 1) := by decide +kernel
theorem dX0_releasePart_0 : decode cX0_releasePart 0 = .ok (.aload_n 0, 1) := by decide +kernel
theorem dX0_releasePart_1 : decode cX0_releasePart 1 = .ok (.iload_n 1, 1) := by decide +kernel
theorem dX0_releasePart_2 : decode cX0_releasePart 2 = .ok (.invokevirtual 63, 3) := by decide +kernel
theorem dX0_releasePart_5 : decode cX0_releasePart 5 = .ok (.ifCond .eq 33, 3) := by decide +kernel
theorem dX0_releasePart_8 : decode cX0_releasePart 8 = .ok (.aload_n 0, 1) := by decide +kernel
theorem dX0_releasePart_9 : decode cX0_releasePart 9 = .ok (.getfield 22, 3) := by decide +kernel
theorem dX0_releasePart_12 : decode cX0_releasePart 12 = .ok (.iload_n 1, 1) := by decide +kernel
theorem dX0_releasePart_13 : decode cX0_releasePart 13 = .ok (.dup2, 1) := by decide +kernel
theorem dX0_releasePart_14 : decode cX0_releasePart 14 = .ok (.iaload, 1) := by decide +kernel
theorem dX0_releasePart_15 : decode cX0_releasePart 15 = .ok (.iload_n 2, 1) := by decide +kernel
theorem dX0_releasePart_16 : decode cX0_releasePart 16 = .ok (.isub, 1) := by decide +kernel
theorem dX0_releasePart_17 : decode cX0_releasePart 17 = .ok (.iastore, 1) := by decide +kernel
theorem dX0_releasePart_18 : decode cX0_releasePart 18 = .ok (.aload_n 0, 1) := by decide +kernel
theorem dX0_releasePart_19 : decode cX0_releasePart 19 = .ok (.getfield 34, 3) := by decide +kernel
theorem dX0_releasePart_22 : decode cX0_releasePart 22 = .ok (.iload_n 1, 1) := by decide +kernel
theorem dX0_releasePart_23 : decode cX0_releasePart 23 = .ok (.dup2, 1) := by decide +kernel
theorem dX0_releasePart_24 : decode cX0_releasePart 24 = .ok (.iaload, 1) := by decide +kernel
theorem dX0_releasePart_25 : decode cX0_releasePart 25 = .ok (.iload_n 2, 1) := by decide +kernel
theorem dX0_releasePart_26 : decode cX0_releasePart 26 = .ok (.iadd, 1) := by decide +kernel
theorem dX0_releasePart_27 : decode cX0_releasePart 27 = .ok (.iastore, 1) := by decide +kernel
theorem dX0_releasePart_28 : decode cX0_releasePart 28 = .ok (.aload_n 0, 1) := by decide +kernel
theorem dX0_releasePart_29 : decode cX0_releasePart 29 = .ok (.dup, 1) := by decide +kernel
theorem dX0_releasePart_30 : decode cX0_releasePart 30 = .ok (.getfield 47, 3) := by decide +kernel
theorem dX0_releasePart_33 : decode cX0_releasePart 33 = .ok (.iload_n 2, 1) := by decide +kernel
theorem dX0_releasePart_34 : decode cX0_releasePart 34 = .ok (.iadd, 1) := by decide +kernel
theorem dX0_releasePart_35 : decode cX0_releasePart 35 = .ok (.putfield 47, 3) := by decide +kernel
theorem dX0_releasePart_38 : decode cX0_releasePart 38 = .ok (.return_, 1) := by decide +kernel
theorem dX0_canBeDisputed_0 : decode cX0_canBeDisputed 0 = .ok (.aload_n 0, 1) := by decide +kernel
theorem dX0_canBeDisputed_1 : decode cX0_canBeDisputed 1 = .ok (.iload_n 1, 1) := by decide +kernel
theorem dX0_canBeDisputed_2 : decode cX0_canBeDisputed 2 = .ok (.invokevirtual 63, 3) := by decide +kernel
theorem dX0_canBeDisputed_5 : decode cX0_canBeDisputed 5 = .ok (.ifCond .eq 15, 3) := by decide +kernel
theorem dX0_canBeDisputed_8 : decode cX0_canBeDisputed 8 = .ok (.aload_n 0, 1) := by decide +kernel
theorem dX0_canBeDisputed_9 : decode cX0_canBeDisputed 9 = .ok (.iload_n 1, 1) := by decide +kernel
theorem dX0_canBeDisputed_10 : decode cX0_canBeDisputed 10 = .ok (.invokevirtual 66, 3) := by decide +kernel
theorem dX0_canBeDisputed_13 : decode cX0_canBeDisputed 13 = .ok (.ifCond .eq 7, 3) := by decide +kernel
theorem dX0_canBeDisputed_16 : decode cX0_canBeDisputed 16 = .ok (.iconst 1, 1) := by decide +kernel
theorem dX0_canBeDisputed_17 : decode cX0_canBeDisputed 17 = .ok (.goto 4, 3) := by decide +kernel
theorem dX0_canBeDisputed_20 : decode cX0_canBeDisputed 20 = .ok (.iconst 0, 1) := by decide +kernel
theorem dX0_canBeDisputed_21 : decode cX0_canBeDisputed 21 = .ok (.ireturn, 1) := by decide +kernel
theorem dX0_isOwing_0 : decode cX0_isOwing 0 = .ok (.aload_n 0, 1) := by decide +kernel
theorem dX0_isOwing_1 : decode cX0_isOwing 1 = .ok (.getfield 22, 3) := by decide +kernel
theorem dX0_isOwing_4 : decode cX0_isOwing 4 = .ok (.iload_n 1, 1) := by decide +kernel
theorem dX0_isOwing_5 : decode cX0_isOwing 5 = .ok (.iaload, 1) := by decide +kernel
theorem dX0_isOwing_6 : decode cX0_isOwing 6 = .ok (.ifCond .le 16, 3) := by decide +kernel
theorem dX0_isOwing_9 : decode cX0_isOwing 9 = .ok (.aload_n 0, 1) := by decide +kernel
theorem dX0_isOwing_10 : decode cX0_isOwing 10 = .ok (.getfield 37, 3) := by decide +kernel
theorem dX0_isOwing_13 : decode cX0_isOwing 13 = .ok (.iload_n 1, 1) := by decide +kernel
theorem dX0_isOwing_14 : decode cX0_isOwing 14 = .ok (.baload, 1) := by decide +kernel
theorem dX0_isOwing_15 : decode cX0_isOwing 15 = .ok (.ifCond .ne 7, 3) := by decide +kernel
theorem dX0_isOwing_18 : decode cX0_isOwing 18 = .ok (.iconst 1, 1) := by decide +kernel
theorem dX0_isOwing_19 : decode cX0_isOwing 19 = .ok (.goto 4, 3) := by decide +kernel
theorem dX0_isOwing_22 : decode cX0_isOwing 22 = .ok (.iconst 0, 1) := by decide +kernel
theorem dX0_isOwing_23 : decode cX0_isOwing 23 = .ok (.ireturn, 1) := by decide +kernel
theorem dX0_pairOf_0 : decode cX0_pairOf 0 = .ok (.aload_n 0, 1) := by decide +kernel
theorem dX0_pairOf_1 : decode cX0_pairOf 1 = .ok (.getfield 15, 3) := by decide +kernel
theorem dX0_pairOf_4 : decode cX0_pairOf 4 = .ok (.iload_n 1, 1) := by decide +kernel
theorem dX0_pairOf_5 : decode cX0_pairOf 5 = .ok (.iaload, 1) := by decide +kernel
theorem dX0_pairOf_6 : decode cX0_pairOf 6 = .ok (.bipush 7, 2) := by decide +kernel
theorem dX0_pairOf_8 : decode cX0_pairOf 8 = .ok (.imul, 1) := by decide +kernel
theorem dX0_pairOf_9 : decode cX0_pairOf 9 = .ok (.aload_n 0, 1) := by decide +kernel
theorem dX0_pairOf_10 : decode cX0_pairOf 10 = .ok (.getfield 19, 3) := by decide +kernel
theorem dX0_pairOf_13 : decode cX0_pairOf 13 = .ok (.iload_n 1, 1) := by decide +kernel
theorem dX0_pairOf_14 : decode cX0_pairOf 14 = .ok (.iaload, 1) := by decide +kernel
theorem dX0_pairOf_15 : decode cX0_pairOf 15 = .ok (.iadd, 1) := by decide +kernel
theorem dX0_pairOf_16 : decode cX0_pairOf 16 = .ok (.ireturn, 1) := by decide +kernel
theorem dX0_costOf_0 : decode cX0_costOf 0 = .ok (.aload_n 0, 1) := by decide +kernel
theorem dX0_costOf_1 : decode cX0_costOf 1 = .ok (.getfield 22, 3) := by decide +kernel
theorem dX0_costOf_4 : decode cX0_costOf 4 = .ok (.iload_n 1, 1) := by decide +kernel
theorem dX0_costOf_5 : decode cX0_costOf 5 = .ok (.iaload, 1) := by decide +kernel
theorem dX0_costOf_6 : decode cX0_costOf 6 = .ok (.aload_n 0, 1) := by decide +kernel
theorem dX0_costOf_7 : decode cX0_costOf 7 = .ok (.getfield 25, 3) := by decide +kernel
theorem dX0_costOf_10 : decode cX0_costOf 10 = .ok (.iload_n 1, 1) := by decide +kernel
theorem dX0_costOf_11 : decode cX0_costOf 11 = .ok (.iaload, 1) := by decide +kernel
theorem dX0_costOf_12 : decode cX0_costOf 12 = .ok (.imul, 1) := by decide +kernel
theorem dX0_costOf_13 : decode cX0_costOf 13 = .ok (.ireturn, 1) := by decide +kernel
theorem dX0_debtBetween_0 : decode cX0_debtBetween 0 = .ok (.iconst 0, 1) := by decide +kernel
theorem dX0_debtBetween_1 : decode cX0_debtBetween 1 = .ok (.istore_n 3, 1) := by decide +kernel
theorem dX0_debtBetween_2 : decode cX0_debtBetween 2 = .ok (.iconst 0, 1) := by decide +kernel
theorem dX0_debtBetween_3 : decode cX0_debtBetween 3 = .ok (.istore 4, 2) := by decide +kernel
theorem dX0_debtBetween_5 : decode cX0_debtBetween 5 = .ok (.iload 4, 2) := by decide +kernel
theorem dX0_debtBetween_7 : decode cX0_debtBetween 7 = .ok (.aload_n 0, 1) := by decide +kernel
theorem dX0_debtBetween_8 : decode cX0_debtBetween 8 = .ok (.getfield 41, 3) := by decide +kernel
theorem dX0_debtBetween_11 : decode cX0_debtBetween 11 = .ok (.if_icmp .ge 51, 3) := by decide +kernel
theorem dX0_debtBetween_14 : decode cX0_debtBetween 14 = .ok (.aload_n 0, 1) := by decide +kernel
theorem dX0_debtBetween_15 : decode cX0_debtBetween 15 = .ok (.getfield 15, 3) := by decide +kernel
theorem dX0_debtBetween_18 : decode cX0_debtBetween 18 = .ok (.iload 4, 2) := by decide +kernel
theorem dX0_debtBetween_20 : decode cX0_debtBetween 20 = .ok (.iaload, 1) := by decide +kernel
theorem dX0_debtBetween_21 : decode cX0_debtBetween 21 = .ok (.iload_n 1, 1) := by decide +kernel
theorem dX0_debtBetween_22 : decode cX0_debtBetween 22 = .ok (.if_icmp .ne 34, 3) := by decide +kernel
theorem dX0_debtBetween_25 : decode cX0_debtBetween 25 = .ok (.aload_n 0, 1) := by decide +kernel
theorem dX0_debtBetween_26 : decode cX0_debtBetween 26 = .ok (.getfield 19, 3) := by decide +kernel
theorem dX0_debtBetween_29 : decode cX0_debtBetween 29 = .ok (.iload 4, 2) := by decide +kernel
theorem dX0_debtBetween_31 : decode cX0_debtBetween 31 = .ok (.iaload, 1) := by decide +kernel
theorem dX0_debtBetween_32 : decode cX0_debtBetween 32 = .ok (.iload_n 2, 1) := by decide +kernel
theorem dX0_debtBetween_33 : decode cX0_debtBetween 33 = .ok (.if_icmp .ne 23, 3) := by decide +kernel
theorem dX0_debtBetween_36 : decode cX0_debtBetween 36 = .ok (.aload_n 0, 1) := by decide +kernel
theorem dX0_debtBetween_37 : decode cX0_debtBetween 37 = .ok (.getfield 37, 3) := by decide +kernel
theorem dX0_debtBetween_40 : decode cX0_debtBetween 40 = .ok (.iload 4, 2) := by decide +kernel
theorem dX0_debtBetween_42 : decode cX0_debtBetween 42 = .ok (.baload, 1) := by decide +kernel
theorem dX0_debtBetween_43 : decode cX0_debtBetween 43 = .ok (.ifCond .ne 13, 3) := by decide +kernel
theorem dX0_debtBetween_46 : decode cX0_debtBetween 46 = .ok (.iload_n 3, 1) := by decide +kernel
theorem dX0_debtBetween_47 : decode cX0_debtBetween 47 = .ok (.aload_n 0, 1) := by decide +kernel
theorem dX0_debtBetween_48 : decode cX0_debtBetween 48 = .ok (.getfield 22, 3) := by decide +kernel
theorem dX0_debtBetween_51 : decode cX0_debtBetween 51 = .ok (.iload 4, 2) := by decide +kernel
theorem dX0_debtBetween_53 : decode cX0_debtBetween 53 = .ok (.iaload, 1) := by decide +kernel
theorem dX0_debtBetween_54 : decode cX0_debtBetween 54 = .ok (.iadd, 1) := by decide +kernel
theorem dX0_debtBetween_55 : decode cX0_debtBetween 55 = .ok (.istore_n 3, 1) := by decide +kernel
theorem dX0_debtBetween_56 : decode cX0_debtBetween 56 = .ok (.iinc 4 1, 3) := by decide +kernel
theorem dX0_debtBetween_59 : decode cX0_debtBetween 59 = .ok (.goto (-54), 3) := by decide +kernel
theorem dX0_debtBetween_62 : decode cX0_debtBetween 62 = .ok (.iload_n 3, 1) := by decide +kernel
theorem dX0_debtBetween_63 : decode cX0_debtBetween 63 = .ok (.ireturn, 1) := by decide +kernel
theorem dX0_netOf_0 : decode cX0_netOf 0 = .ok (.iconst 0, 1) := by decide +kernel
theorem dX0_netOf_1 : decode cX0_netOf 1 = .ok (.istore_n 2, 1) := by decide +kernel
theorem dX0_netOf_2 : decode cX0_netOf 2 = .ok (.iconst 0, 1) := by decide +kernel
theorem dX0_netOf_3 : decode cX0_netOf 3 = .ok (.istore_n 3, 1) := by decide +kernel
theorem dX0_netOf_4 : decode cX0_netOf 4 = .ok (.iload_n 3, 1) := by decide +kernel
theorem dX0_netOf_5 : decode cX0_netOf 5 = .ok (.aload_n 0, 1) := by decide +kernel
theorem dX0_netOf_6 : decode cX0_netOf 6 = .ok (.getfield 41, 3) := by decide +kernel
theorem dX0_netOf_9 : decode cX0_netOf 9 = .ok (.if_icmp .ge 47, 3) := by decide +kernel
theorem dX0_netOf_12 : decode cX0_netOf 12 = .ok (.aload_n 0, 1) := by decide +kernel
theorem dX0_netOf_13 : decode cX0_netOf 13 = .ok (.getfield 19, 3) := by decide +kernel
theorem dX0_netOf_16 : decode cX0_netOf 16 = .ok (.iload_n 3, 1) := by decide +kernel
theorem dX0_netOf_17 : decode cX0_netOf 17 = .ok (.iaload, 1) := by decide +kernel
theorem dX0_netOf_18 : decode cX0_netOf 18 = .ok (.iload_n 1, 1) := by decide +kernel
theorem dX0_netOf_19 : decode cX0_netOf 19 = .ok (.if_icmp .ne 12, 3) := by decide +kernel
theorem dX0_netOf_22 : decode cX0_netOf 22 = .ok (.iload_n 2, 1) := by decide +kernel
theorem dX0_netOf_23 : decode cX0_netOf 23 = .ok (.aload_n 0, 1) := by decide +kernel
theorem dX0_netOf_24 : decode cX0_netOf 24 = .ok (.getfield 22, 3) := by decide +kernel
theorem dX0_netOf_27 : decode cX0_netOf 27 = .ok (.iload_n 3, 1) := by decide +kernel
theorem dX0_netOf_28 : decode cX0_netOf 28 = .ok (.iaload, 1) := by decide +kernel
theorem dX0_netOf_29 : decode cX0_netOf 29 = .ok (.iadd, 1) := by decide +kernel
theorem dX0_netOf_30 : decode cX0_netOf 30 = .ok (.istore_n 2, 1) := by decide +kernel
theorem dX0_netOf_31 : decode cX0_netOf 31 = .ok (.aload_n 0, 1) := by decide +kernel
theorem dX0_netOf_32 : decode cX0_netOf 32 = .ok (.getfield 15, 3) := by decide +kernel
theorem dX0_netOf_35 : decode cX0_netOf 35 = .ok (.iload_n 3, 1) := by decide +kernel
theorem dX0_netOf_36 : decode cX0_netOf 36 = .ok (.iaload, 1) := by decide +kernel
theorem dX0_netOf_37 : decode cX0_netOf 37 = .ok (.iload_n 1, 1) := by decide +kernel
theorem dX0_netOf_38 : decode cX0_netOf 38 = .ok (.if_icmp .ne 12, 3) := by decide +kernel
theorem dX0_netOf_41 : decode cX0_netOf 41 = .ok (.iload_n 2, 1) := by decide +kernel
theorem dX0_netOf_42 : decode cX0_netOf 42 = .ok (.aload_n 0, 1) := by decide +kernel
theorem dX0_netOf_43 : decode cX0_netOf 43 = .ok (.getfield 22, 3) := by decide +kernel
theorem dX0_netOf_46 : decode cX0_netOf 46 = .ok (.iload_n 3, 1) := by decide +kernel
theorem dX0_netOf_47 : decode cX0_netOf 47 = .ok (.iaload, 1) := by decide +kernel
theorem dX0_netOf_48 : decode cX0_netOf 48 = .ok (.isub, 1) := by decide +kernel
theorem dX0_netOf_49 : decode cX0_netOf 49 = .ok (.istore_n 2, 1) := by decide +kernel
theorem dX0_netOf_50 : decode cX0_netOf 50 = .ok (.iinc 3 1, 3) := by decide +kernel
theorem dX0_netOf_53 : decode cX0_netOf 53 = .ok (.goto (-49), 3) := by decide +kernel
theorem dX0_netOf_56 : decode cX0_netOf 56 = .ok (.iload_n 2, 1) := by decide +kernel
theorem dX0_netOf_57 : decode cX0_netOf 57 = .ok (.ireturn, 1) := by decide +kernel
theorem dX0_sumOfGains_0 : decode cX0_sumOfGains 0 = .ok (.iconst 0, 1) := by decide +kernel
theorem dX0_sumOfGains_1 : decode cX0_sumOfGains 1 = .ok (.istore_n 1, 1) := by decide +kernel
theorem dX0_sumOfGains_2 : decode cX0_sumOfGains 2 = .ok (.iconst 0, 1) := by decide +kernel
theorem dX0_sumOfGains_3 : decode cX0_sumOfGains 3 = .ok (.istore_n 2, 1) := by decide +kernel
theorem dX0_sumOfGains_4 : decode cX0_sumOfGains 4 = .ok (.iload_n 2, 1) := by decide +kernel
theorem dX0_sumOfGains_5 : decode cX0_sumOfGains 5 = .ok (.aload_n 0, 1) := by decide +kernel
theorem dX0_sumOfGains_6 : decode cX0_sumOfGains 6 = .ok (.getfield 9, 3) := by decide +kernel
theorem dX0_sumOfGains_9 : decode cX0_sumOfGains 9 = .ok (.if_icmp .ge 21, 3) := by decide +kernel
theorem dX0_sumOfGains_12 : decode cX0_sumOfGains 12 = .ok (.iload_n 1, 1) := by decide +kernel
theorem dX0_sumOfGains_13 : decode cX0_sumOfGains 13 = .ok (.iconst 0, 1) := by decide +kernel
theorem dX0_sumOfGains_14 : decode cX0_sumOfGains 14 = .ok (.aload_n 0, 1) := by decide +kernel
theorem dX0_sumOfGains_15 : decode cX0_sumOfGains 15 = .ok (.iload_n 2, 1) := by decide +kernel
theorem dX0_sumOfGains_16 : decode cX0_sumOfGains 16 = .ok (.invokevirtual 69, 3) := by decide +kernel
theorem dX0_sumOfGains_19 : decode cX0_sumOfGains 19 = .ok (.invokestatic 73, 3) := by decide +kernel
theorem dX0_sumOfGains_22 : decode cX0_sumOfGains 22 = .ok (.iadd, 1) := by decide +kernel
theorem dX0_sumOfGains_23 : decode cX0_sumOfGains 23 = .ok (.istore_n 1, 1) := by decide +kernel
theorem dX0_sumOfGains_24 : decode cX0_sumOfGains 24 = .ok (.iinc 2 1, 3) := by decide +kernel
theorem dX0_sumOfGains_27 : decode cX0_sumOfGains 27 = .ok (.goto (-23), 3) := by decide +kernel
theorem dX0_sumOfGains_30 : decode cX0_sumOfGains 30 = .ok (.iload_n 1, 1) := by decide +kernel
theorem dX0_sumOfGains_31 : decode cX0_sumOfGains 31 = .ok (.ireturn, 1) := by decide +kernel
theorem dX0_countOpen_0 : decode cX0_countOpen 0 = .ok (.iconst 0, 1) := by decide +kernel
theorem dX0_countOpen_1 : decode cX0_countOpen 1 = .ok (.istore_n 1, 1) := by decide +kernel
theorem dX0_countOpen_2 : decode cX0_countOpen 2 = .ok (.iconst 0, 1) := by decide +kernel
theorem dX0_countOpen_3 : decode cX0_countOpen 3 = .ok (.istore_n 2, 1) := by decide +kernel
theorem dX0_countOpen_4 : decode cX0_countOpen 4 = .ok (.iload_n 2, 1) := by decide +kernel
theorem dX0_countOpen_5 : decode cX0_countOpen 5 = .ok (.aload_n 0, 1) := by decide +kernel
theorem dX0_countOpen_6 : decode cX0_countOpen 6 = .ok (.getfield 41, 3) := by decide +kernel
theorem dX0_countOpen_9 : decode cX0_countOpen 9 = .ok (.if_icmp .ge 21, 3) := by decide +kernel
theorem dX0_countOpen_12 : decode cX0_countOpen 12 = .ok (.aload_n 0, 1) := by decide +kernel
theorem dX0_countOpen_13 : decode cX0_countOpen 13 = .ok (.getfield 22, 3) := by decide +kernel
theorem dX0_countOpen_16 : decode cX0_countOpen 16 = .ok (.iload_n 2, 1) := by decide +kernel
theorem dX0_countOpen_17 : decode cX0_countOpen 17 = .ok (.iaload, 1) := by decide +kernel
theorem dX0_countOpen_18 : decode cX0_countOpen 18 = .ok (.ifCond .le 6, 3) := by decide +kernel
theorem dX0_countOpen_21 : decode cX0_countOpen 21 = .ok (.iinc 1 1, 3) := by decide +kernel
theorem dX0_countOpen_24 : decode cX0_countOpen 24 = .ok (.iinc 2 1, 3) := by decide +kernel
theorem dX0_countOpen_27 : decode cX0_countOpen 27 = .ok (.goto (-23), 3) := by decide +kernel
theorem dX0_countOpen_30 : decode cX0_countOpen 30 = .ok (.iload_n 1, 1) := by decide +kernel
theorem dX0_countOpen_31 : decode cX0_countOpen 31 = .ok (.ireturn, 1) := by decide +kernel
theorem dX0_countDisputed_0 : decode cX0_countDisputed 0 = .ok (.iconst 0, 1) := by decide +kernel
theorem dX0_countDisputed_1 : decode cX0_countDisputed 1 = .ok (.istore_n 1, 1) := by decide +kernel
theorem dX0_countDisputed_2 : decode cX0_countDisputed 2 = .ok (.iconst 0, 1) := by decide +kernel
theorem dX0_countDisputed_3 : decode cX0_countDisputed 3 = .ok (.istore_n 2, 1) := by decide +kernel
theorem dX0_countDisputed_4 : decode cX0_countDisputed 4 = .ok (.iload_n 2, 1) := by decide +kernel
theorem dX0_countDisputed_5 : decode cX0_countDisputed 5 = .ok (.aload_n 0, 1) := by decide +kernel
theorem dX0_countDisputed_6 : decode cX0_countDisputed 6 = .ok (.getfield 41, 3) := by decide +kernel
theorem dX0_countDisputed_9 : decode cX0_countDisputed 9 = .ok (.if_icmp .ge 21, 3) := by decide +kernel
theorem dX0_countDisputed_12 : decode cX0_countDisputed 12 = .ok (.aload_n 0, 1) := by decide +kernel
theorem dX0_countDisputed_13 : decode cX0_countDisputed 13 = .ok (.getfield 37, 3) := by decide +kernel
theorem dX0_countDisputed_16 : decode cX0_countDisputed 16 = .ok (.iload_n 2, 1) := by decide +kernel
theorem dX0_countDisputed_17 : decode cX0_countDisputed 17 = .ok (.baload, 1) := by decide +kernel
theorem dX0_countDisputed_18 : decode cX0_countDisputed 18 = .ok (.ifCond .eq 6, 3) := by decide +kernel
theorem dX0_countDisputed_21 : decode cX0_countDisputed 21 = .ok (.iinc 1 1, 3) := by decide +kernel
theorem dX0_countDisputed_24 : decode cX0_countDisputed 24 = .ok (.iinc 2 1, 3) := by decide +kernel
theorem dX0_countDisputed_27 : decode cX0_countDisputed 27 = .ok (.goto (-23), 3) := by decide +kernel
theorem dX0_countDisputed_30 : decode cX0_countDisputed 30 = .ok (.iload_n 1, 1) := by decide +kernel
theorem dX0_countDisputed_31 : decode cX0_countDisputed 31 = .ok (.ireturn, 1) := by decide +kernel
theorem dX0_sumOfAmounts_0 : decode cX0_sumOfAmounts 0 = .ok (.iconst 0, 1) := by decide +kernel
theorem dX0_sumOfAmounts_1 : decode cX0_sumOfAmounts 1 = .ok (.istore_n 1, 1) := by decide +kernel
theorem dX0_sumOfAmounts_2 : decode cX0_sumOfAmounts 2 = .ok (.iconst 0, 1) := by decide +kernel
theorem dX0_sumOfAmounts_3 : decode cX0_sumOfAmounts 3 = .ok (.istore_n 2, 1) := by decide +kernel
theorem dX0_sumOfAmounts_4 : decode cX0_sumOfAmounts 4 = .ok (.iload_n 2, 1) := by decide +kernel
theorem dX0_sumOfAmounts_5 : decode cX0_sumOfAmounts 5 = .ok (.aload_n 0, 1) := by decide +kernel
theorem dX0_sumOfAmounts_6 : decode cX0_sumOfAmounts 6 = .ok (.getfield 41, 3) := by decide +kernel
theorem dX0_sumOfAmounts_9 : decode cX0_sumOfAmounts 9 = .ok (.if_icmp .ge 18, 3) := by decide +kernel
theorem dX0_sumOfAmounts_12 : decode cX0_sumOfAmounts 12 = .ok (.iload_n 1, 1) := by decide +kernel
theorem dX0_sumOfAmounts_13 : decode cX0_sumOfAmounts 13 = .ok (.aload_n 0, 1) := by decide +kernel
theorem dX0_sumOfAmounts_14 : decode cX0_sumOfAmounts 14 = .ok (.getfield 22, 3) := by decide +kernel
theorem dX0_sumOfAmounts_17 : decode cX0_sumOfAmounts 17 = .ok (.iload_n 2, 1) := by decide +kernel
theorem dX0_sumOfAmounts_18 : decode cX0_sumOfAmounts 18 = .ok (.iaload, 1) := by decide +kernel
theorem dX0_sumOfAmounts_19 : decode cX0_sumOfAmounts 19 = .ok (.iadd, 1) := by decide +kernel
theorem dX0_sumOfAmounts_20 : decode cX0_sumOfAmounts 20 = .ok (.istore_n 1, 1) := by decide +kernel
theorem dX0_sumOfAmounts_21 : decode cX0_sumOfAmounts 21 = .ok (.iinc 2 1, 3) := by decide +kernel
theorem dX0_sumOfAmounts_24 : decode cX0_sumOfAmounts 24 = .ok (.goto (-20), 3) := by decide +kernel
theorem dX0_sumOfAmounts_27 : decode cX0_sumOfAmounts 27 = .ok (.iload_n 1, 1) := by decide +kernel
theorem dX0_sumOfAmounts_28 : decode cX0_sumOfAmounts 28 = .ok (.ireturn, 1) := by decide +kernel
theorem dX0_costOfAll_0 : decode cX0_costOfAll 0 = .ok (.iconst 0, 1) := by decide +kernel
theorem dX0_costOfAll_1 : decode cX0_costOfAll 1 = .ok (.istore_n 1, 1) := by decide +kernel
theorem dX0_costOfAll_2 : decode cX0_costOfAll 2 = .ok (.iconst 0, 1) := by decide +kernel
theorem dX0_costOfAll_3 : decode cX0_costOfAll 3 = .ok (.istore_n 2, 1) := by decide +kernel
theorem dX0_costOfAll_4 : decode cX0_costOfAll 4 = .ok (.iload_n 2, 1) := by decide +kernel
theorem dX0_costOfAll_5 : decode cX0_costOfAll 5 = .ok (.aload_n 0, 1) := by decide +kernel
theorem dX0_costOfAll_6 : decode cX0_costOfAll 6 = .ok (.getfield 41, 3) := by decide +kernel
theorem dX0_costOfAll_9 : decode cX0_costOfAll 9 = .ok (.if_icmp .ge 17, 3) := by decide +kernel
theorem dX0_costOfAll_12 : decode cX0_costOfAll 12 = .ok (.iload_n 1, 1) := by decide +kernel
theorem dX0_costOfAll_13 : decode cX0_costOfAll 13 = .ok (.aload_n 0, 1) := by decide +kernel
theorem dX0_costOfAll_14 : decode cX0_costOfAll 14 = .ok (.iload_n 2, 1) := by decide +kernel
theorem dX0_costOfAll_15 : decode cX0_costOfAll 15 = .ok (.invokevirtual 79, 3) := by decide +kernel
theorem dX0_costOfAll_18 : decode cX0_costOfAll 18 = .ok (.iadd, 1) := by decide +kernel
theorem dX0_costOfAll_19 : decode cX0_costOfAll 19 = .ok (.istore_n 1, 1) := by decide +kernel
theorem dX0_costOfAll_20 : decode cX0_costOfAll 20 = .ok (.iinc 2 1, 3) := by decide +kernel
theorem dX0_costOfAll_23 : decode cX0_costOfAll 23 = .ok (.goto (-19), 3) := by decide +kernel
theorem dX0_costOfAll_26 : decode cX0_costOfAll 26 = .ok (.iload_n 1, 1) := by decide +kernel
theorem dX0_costOfAll_27 : decode cX0_costOfAll 27 = .ok (.ireturn, 1) := by decide +kernel
theorem dX1_init_0 : decode cX1_init 0 = .ok (.aload_n 0, 1) := by decide +kernel
theorem dX1_init_1 : decode cX1_init 1 = .ok (.invokespecial 3, 3) := by decide +kernel
theorem dX1_init_4 : decode cX1_init 4 = .ok (.aload_n 0, 1) := by decide +kernel
theorem dX1_init_5 : decode cX1_init 5 = .ok (.bipush 49, 2) := by decide +kernel
theorem dX1_init_7 : decode cX1_init 7 = .ok (.newarray .int, 2) := by decide +kernel
theorem dX1_init_9 : decode cX1_init 9 = .ok (.putfield 9, 3) := by decide +kernel
theorem dX1_init_12 : decode cX1_init 12 = .ok (.aload_n 0, 1) := by decide +kernel
theorem dX1_init_13 : decode cX1_init 13 = .ok (.bipush 49, 2) := by decide +kernel
theorem dX1_init_15 : decode cX1_init 15 = .ok (.newarray .int, 2) := by decide +kernel
theorem dX1_init_17 : decode cX1_init 17 = .ok (.putfield 15, 3) := by decide +kernel
theorem dX1_init_20 : decode cX1_init 20 = .ok (.aload_n 0, 1) := by decide +kernel
theorem dX1_init_21 : decode cX1_init 21 = .ok (.bipush 40, 2) := by decide +kernel
theorem dX1_init_23 : decode cX1_init 23 = .ok (.newarray .int, 2) := by decide +kernel
theorem dX1_init_25 : decode cX1_init 25 = .ok (.putfield 18, 3) := by decide +kernel
theorem dX1_init_28 : decode cX1_init 28 = .ok (.return_, 1) := by decide +kernel
theorem dX1_read_0 : decode cX1_read 0 = .ok (.iconst 0, 1) := by decide +kernel
theorem dX1_read_1 : decode cX1_read 1 = .ok (.istore_n 2, 1) := by decide +kernel
theorem dX1_read_2 : decode cX1_read 2 = .ok (.iload_n 2, 1) := by decide +kernel
theorem dX1_read_3 : decode cX1_read 3 = .ok (.bipush 49, 2) := by decide +kernel
theorem dX1_read_5 : decode cX1_read 5 = .ok (.if_icmp .ge 23, 3) := by decide +kernel
theorem dX1_read_8 : decode cX1_read 8 = .ok (.aload_n 0, 1) := by decide +kernel
theorem dX1_read_9 : decode cX1_read 9 = .ok (.getfield 9, 3) := by decide +kernel
theorem dX1_read_12 : decode cX1_read 12 = .ok (.iload_n 2, 1) := by decide +kernel
theorem dX1_read_13 : decode cX1_read 13 = .ok (.iconst 0, 1) := by decide +kernel
theorem dX1_read_14 : decode cX1_read 14 = .ok (.iastore, 1) := by decide +kernel
theorem dX1_read_15 : decode cX1_read 15 = .ok (.aload_n 0, 1) := by decide +kernel
theorem dX1_read_16 : decode cX1_read 16 = .ok (.getfield 15, 3) := by decide +kernel
theorem dX1_read_19 : decode cX1_read 19 = .ok (.iload_n 2, 1) := by decide +kernel
theorem dX1_read_20 : decode cX1_read 20 = .ok (.iconst (-1), 1) := by decide +kernel
theorem dX1_read_21 : decode cX1_read 21 = .ok (.iastore, 1) := by decide +kernel
theorem dX1_read_22 : decode cX1_read 22 = .ok (.iinc 2 1, 3) := by decide +kernel
theorem dX1_read_25 : decode cX1_read 25 = .ok (.goto (-23), 3) := by decide +kernel
theorem dX1_read_28 : decode cX1_read 28 = .ok (.iconst 1, 1) := by decide +kernel
theorem dX1_read_29 : decode cX1_read 29 = .ok (.istore_n 2, 1) := by decide +kernel
theorem dX1_read_30 : decode cX1_read 30 = .ok (.iload_n 2, 1) := by decide +kernel
theorem dX1_read_31 : decode cX1_read 31 = .ok (.bipush 9, 2) := by decide +kernel
theorem dX1_read_33 : decode cX1_read 33 = .ok (.if_icmp .gt 60, 3) := by decide +kernel
theorem dX1_read_36 : decode cX1_read 36 = .ok (.aload_n 1, 1) := by decide +kernel
theorem dX1_read_37 : decode cX1_read 37 = .ok (.getfield 21, 3) := by decide +kernel
theorem dX1_read_40 : decode cX1_read 40 = .ok (.iconst 1, 1) := by decide +kernel
theorem dX1_read_41 : decode cX1_read 41 = .ok (.isub, 1) := by decide +kernel
theorem dX1_read_42 : decode cX1_read 42 = .ok (.istore_n 3, 1) := by decide +kernel
theorem dX1_read_43 : decode cX1_read 43 = .ok (.iload_n 3, 1) := by decide +kernel
theorem dX1_read_44 : decode cX1_read 44 = .ok (.ifCond .lt 43, 3) := by decide +kernel
theorem dX1_read_47 : decode cX1_read 47 = .ok (.aload_n 1, 1) := by decide +kernel
theorem dX1_read_48 : decode cX1_read 48 = .ok (.getfield 27, 3) := by decide +kernel
theorem dX1_read_51 : decode cX1_read 51 = .ok (.iload_n 3, 1) := by decide +kernel
theorem dX1_read_52 : decode cX1_read 52 = .ok (.iaload, 1) := by decide +kernel
theorem dX1_read_53 : decode cX1_read 53 = .ok (.iload_n 2, 1) := by decide +kernel
theorem dX1_read_54 : decode cX1_read 54 = .ok (.if_icmp .ne 27, 3) := by decide +kernel
theorem dX1_read_57 : decode cX1_read 57 = .ok (.aload_n 1, 1) := by decide +kernel
theorem dX1_read_58 : decode cX1_read 58 = .ok (.iload_n 3, 1) := by decide +kernel
theorem dX1_read_59 : decode cX1_read 59 = .ok (.invokevirtual 30, 3) := by decide +kernel
theorem dX1_read_62 : decode cX1_read 62 = .ok (.ifCond .eq 19, 3) := by decide +kernel
theorem dX1_read_65 : decode cX1_read 65 = .ok (.aload_n 0, 1) := by decide +kernel
theorem dX1_read_66 : decode cX1_read 66 = .ok (.aload_n 1, 1) := by decide +kernel
theorem dX1_read_67 : decode cX1_read 67 = .ok (.iload_n 3, 1) := by decide +kernel
theorem dX1_read_68 : decode cX1_read 68 = .ok (.invokevirtual 34, 3) := by decide +kernel
theorem dX1_read_71 : decode cX1_read 71 = .ok (.iload_n 3, 1) := by decide +kernel
theorem dX1_read_72 : decode cX1_read 72 = .ok (.aload_n 1, 1) := by decide +kernel
theorem dX1_read_73 : decode cX1_read 73 = .ok (.getfield 38, 3) := by decide +kernel
theorem dX1_read_76 : decode cX1_read 76 = .ok (.iload_n 3, 1) := by decide +kernel
theorem dX1_read_77 : decode cX1_read 77 = .ok (.iaload, 1) := by decide +kernel
theorem dX1_read_78 : decode cX1_read 78 = .ok (.invokevirtual 41, 3) := by decide +kernel
theorem dX1_read_81 : decode cX1_read 81 = .ok (.iinc 3 (-1), 3) := by decide +kernel
theorem dX1_read_84 : decode cX1_read 84 = .ok (.goto (-41), 3) := by decide +kernel
theorem dX1_read_87 : decode cX1_read 87 = .ok (.iinc 2 1, 3) := by decide +kernel
theorem dX1_read_90 : decode cX1_read 90 = .ok (.goto (-60), 3) := by decide +kernel
theorem dX1_read_93 : decode cX1_read 93 = .ok (.return_, 1) := by decide +kernel
theorem dX1_putFirst_0 : decode cX1_putFirst 0 = .ok (.iload_n 1, 1) := by decide +kernel
theorem dX1_putFirst_1 : decode cX1_putFirst 1 = .ok (.invokestatic 45, 3) := by decide +kernel
theorem dX1_putFirst_4 : decode cX1_putFirst 4 = .ok (.ifCond .eq 39, 3) := by decide +kernel
theorem dX1_putFirst_7 : decode cX1_putFirst 7 = .ok (.iload_n 2, 1) := by decide +kernel
theorem dX1_putFirst_8 : decode cX1_putFirst 8 = .ok (.invokestatic 48, 3) := by decide +kernel
theorem dX1_putFirst_11 : decode cX1_putFirst 11 = .ok (.ifCond .eq 32, 3) := by decide +kernel
theorem dX1_putFirst_14 : decode cX1_putFirst 14 = .ok (.aload_n 0, 1) := by decide +kernel
theorem dX1_putFirst_15 : decode cX1_putFirst 15 = .ok (.getfield 9, 3) := by decide +kernel
theorem dX1_putFirst_18 : decode cX1_putFirst 18 = .ok (.iload_n 1, 1) := by decide +kernel
theorem dX1_putFirst_19 : decode cX1_putFirst 19 = .ok (.dup2, 1) := by decide +kernel
theorem dX1_putFirst_20 : decode cX1_putFirst 20 = .ok (.iaload, 1) := by decide +kernel
theorem dX1_putFirst_21 : decode cX1_putFirst 21 = .ok (.iload_n 3, 1) := by decide +kernel
theorem dX1_putFirst_22 : decode cX1_putFirst 22 = .ok (.iadd, 1) := by decide +kernel
theorem dX1_putFirst_23 : decode cX1_putFirst 23 = .ok (.iastore, 1) := by decide +kernel
theorem dX1_putFirst_24 : decode cX1_putFirst 24 = .ok (.aload_n 0, 1) := by decide +kernel
theorem dX1_putFirst_25 : decode cX1_putFirst 25 = .ok (.getfield 18, 3) := by decide +kernel
theorem dX1_putFirst_28 : decode cX1_putFirst 28 = .ok (.iload_n 2, 1) := by decide +kernel
theorem dX1_putFirst_29 : decode cX1_putFirst 29 = .ok (.aload_n 0, 1) := by decide +kernel
theorem dX1_putFirst_30 : decode cX1_putFirst 30 = .ok (.getfield 15, 3) := by decide +kernel
theorem dX1_putFirst_33 : decode cX1_putFirst 33 = .ok (.iload_n 1, 1) := by decide +kernel
theorem dX1_putFirst_34 : decode cX1_putFirst 34 = .ok (.iaload, 1) := by decide +kernel
theorem dX1_putFirst_35 : decode cX1_putFirst 35 = .ok (.iastore, 1) := by decide +kernel
theorem dX1_putFirst_36 : decode cX1_putFirst 36 = .ok (.aload_n 0, 1) := by decide +kernel
theorem dX1_putFirst_37 : decode cX1_putFirst 37 = .ok (.getfield 15, 3) := by decide +kernel
theorem dX1_putFirst_40 : decode cX1_putFirst 40 = .ok (.iload_n 1, 1) := by decide +kernel
theorem dX1_putFirst_41 : decode cX1_putFirst 41 = .ok (.iload_n 2, 1) := by decide +kernel
theorem dX1_putFirst_42 : decode cX1_putFirst 42 = .ok (.iastore, 1) := by decide +kernel
theorem dX1_putFirst_43 : decode cX1_putFirst 43 = .ok (.return_, 1) := by decide +kernel
theorem dX1_sumOf_0 : decode cX1_sumOf 0 = .ok (.iload_n 1, 1) := by decide +kernel
theorem dX1_sumOf_1 : decode cX1_sumOf 1 = .ok (.invokestatic 45, 3) := by decide +kernel
theorem dX1_sumOf_4 : decode cX1_sumOf 4 = .ok (.ifCond .eq 12, 3) := by decide +kernel
theorem dX1_sumOf_7 : decode cX1_sumOf 7 = .ok (.aload_n 0, 1) := by decide +kernel
theorem dX1_sumOf_8 : decode cX1_sumOf 8 = .ok (.getfield 9, 3) := by decide +kernel
theorem dX1_sumOf_11 : decode cX1_sumOf 11 = .ok (.iload_n 1, 1) := by decide +kernel
theorem dX1_sumOf_12 : decode cX1_sumOf 12 = .ok (.iaload, 1) := by decide +kernel
theorem dX1_sumOf_13 : decode cX1_sumOf 13 = .ok (.goto 4, 3) := by decide +kernel
theorem dX1_sumOf_16 : decode cX1_sumOf 16 = .ok (.iconst 0, 1) := by decide +kernel
theorem dX1_sumOf_17 : decode cX1_sumOf 17 = .ok (.ireturn, 1) := by decide +kernel
theorem dX1_costOfPart_0 : decode cX1_costOfPart 0 = .ok (.iconst 0, 1) := by decide +kernel
theorem dX1_costOfPart_1 : decode cX1_costOfPart 1 = .ok (.istore 4, 2) := by decide +kernel
theorem dX1_costOfPart_3 : decode cX1_costOfPart 3 = .ok (.iload_n 3, 1) := by decide +kernel
theorem dX1_costOfPart_4 : decode cX1_costOfPart 4 = .ok (.istore 5, 2) := by decide +kernel
theorem dX1_costOfPart_6 : decode cX1_costOfPart 6 = .ok (.iload_n 2, 1) := by decide +kernel
theorem dX1_costOfPart_7 : decode cX1_costOfPart 7 = .ok (.invokestatic 45, 3) := by decide +kernel
theorem dX1_costOfPart_10 : decode cX1_costOfPart 10 = .ok (.ifCond .eq 12, 3) := by decide +kernel
theorem dX1_costOfPart_13 : decode cX1_costOfPart 13 = .ok (.aload_n 0, 1) := by decide +kernel
theorem dX1_costOfPart_14 : decode cX1_costOfPart 14 = .ok (.getfield 15, 3) := by decide +kernel
theorem dX1_costOfPart_17 : decode cX1_costOfPart 17 = .ok (.iload_n 2, 1) := by decide +kernel
theorem dX1_costOfPart_18 : decode cX1_costOfPart 18 = .ok (.iaload, 1) := by decide +kernel
theorem dX1_costOfPart_19 : decode cX1_costOfPart 19 = .ok (.goto 4, 3) := by decide +kernel
theorem dX1_costOfPart_22 : decode cX1_costOfPart 22 = .ok (.iconst (-1), 1) := by decide +kernel
theorem dX1_costOfPart_23 : decode cX1_costOfPart 23 = .ok (.istore 6, 2) := by decide +kernel
theorem dX1_costOfPart_25 : decode cX1_costOfPart 25 = .ok (.iconst 0, 1) := by decide +kernel
theorem dX1_costOfPart_26 : decode cX1_costOfPart 26 = .ok (.istore 7, 2) := by decide +kernel
theorem dX1_costOfPart_28 : decode cX1_costOfPart 28 = .ok (.iload 7, 2) := by decide +kernel
theorem dX1_costOfPart_30 : decode cX1_costOfPart 30 = .ok (.bipush 40, 2) := by decide +kernel
theorem dX1_costOfPart_32 : decode cX1_costOfPart 32 = .ok (.if_icmp .ge 67, 3) := by decide +kernel
theorem dX1_costOfPart_35 : decode cX1_costOfPart 35 = .ok (.iload 5, 2) := by decide +kernel
theorem dX1_costOfPart_37 : decode cX1_costOfPart 37 = .ok (.ifCond .le 62, 3) := by decide +kernel
theorem dX1_costOfPart_40 : decode cX1_costOfPart 40 = .ok (.iload 6, 2) := by decide +kernel
theorem dX1_costOfPart_42 : decode cX1_costOfPart 42 = .ok (.invokestatic 48, 3) := by decide +kernel
theorem dX1_costOfPart_45 : decode cX1_costOfPart 45 = .ok (.ifCond .eq 54, 3) := by decide +kernel
theorem dX1_costOfPart_48 : decode cX1_costOfPart 48 = .ok (.iload 5, 2) := by decide +kernel
theorem dX1_costOfPart_50 : decode cX1_costOfPart 50 = .ok (.aload_n 1, 1) := by decide +kernel
theorem dX1_costOfPart_51 : decode cX1_costOfPart 51 = .ok (.getfield 38, 3) := by decide +kernel
theorem dX1_costOfPart_54 : decode cX1_costOfPart 54 = .ok (.iload 6, 2) := by decide +kernel
theorem dX1_costOfPart_56 : decode cX1_costOfPart 56 = .ok (.iaload, 1) := by decide +kernel
theorem dX1_costOfPart_57 : decode cX1_costOfPart 57 = .ok (.invokestatic 51, 3) := by decide +kernel
theorem dX1_costOfPart_60 : decode cX1_costOfPart 60 = .ok (.istore 8, 2) := by decide +kernel
theorem dX1_costOfPart_62 : decode cX1_costOfPart 62 = .ok (.iload 4, 2) := by decide +kernel
theorem dX1_costOfPart_64 : decode cX1_costOfPart 64 = .ok (.iload 8, 2) := by decide +kernel
theorem dX1_costOfPart_66 : decode cX1_costOfPart 66 = .ok (.aload_n 1, 1) := by decide +kernel
theorem dX1_costOfPart_67 : decode cX1_costOfPart 67 = .ok (.getfield 27, 3) := by decide +kernel
theorem dX1_costOfPart_70 : decode cX1_costOfPart 70 = .ok (.iload 6, 2) := by decide +kernel
theorem dX1_costOfPart_72 : decode cX1_costOfPart 72 = .ok (.iaload, 1) := by decide +kernel
theorem dX1_costOfPart_73 : decode cX1_costOfPart 73 = .ok (.imul, 1) := by decide +kernel
theorem dX1_costOfPart_74 : decode cX1_costOfPart 74 = .ok (.iadd, 1) := by decide +kernel
theorem dX1_costOfPart_75 : decode cX1_costOfPart 75 = .ok (.istore 4, 2) := by decide +kernel
theorem dX1_costOfPart_77 : decode cX1_costOfPart 77 = .ok (.iload 5, 2) := by decide +kernel
theorem dX1_costOfPart_79 : decode cX1_costOfPart 79 = .ok (.iload 8, 2) := by decide +kernel
theorem dX1_costOfPart_81 : decode cX1_costOfPart 81 = .ok (.isub, 1) := by decide +kernel
theorem dX1_costOfPart_82 : decode cX1_costOfPart 82 = .ok (.istore 5, 2) := by decide +kernel
theorem dX1_costOfPart_84 : decode cX1_costOfPart 84 = .ok (.aload_n 0, 1) := by decide +kernel
theorem dX1_costOfPart_85 : decode cX1_costOfPart 85 = .ok (.getfield 18, 3) := by decide +kernel
theorem dX1_costOfPart_88 : decode cX1_costOfPart 88 = .ok (.iload 6, 2) := by decide +kernel
theorem dX1_costOfPart_90 : decode cX1_costOfPart 90 = .ok (.iaload, 1) := by decide +kernel
theorem dX1_costOfPart_91 : decode cX1_costOfPart 91 = .ok (.istore 6, 2) := by decide +kernel
theorem dX1_costOfPart_93 : decode cX1_costOfPart 93 = .ok (.iinc 7 1, 3) := by decide +kernel
theorem dX1_costOfPart_96 : decode cX1_costOfPart 96 = .ok (.goto (-68), 3) := by decide +kernel
theorem dX1_costOfPart_99 : decode cX1_costOfPart 99 = .ok (.iload 4, 2) := by decide +kernel
theorem dX1_costOfPart_101 : decode cX1_costOfPart 101 = .ok (.ireturn, 1) := by decide +kernel
theorem dX1_releaseFrom_0 : decode cX1_releaseFrom 0 = .ok (.iload_n 3, 1) := by decide +kernel
theorem dX1_releaseFrom_1 : decode cX1_releaseFrom 1 = .ok (.istore 4, 2) := by decide +kernel
theorem dX1_releaseFrom_3 : decode cX1_releaseFrom 3 = .ok (.iload_n 2, 1) := by decide +kernel
theorem dX1_releaseFrom_4 : decode cX1_releaseFrom 4 = .ok (.invokestatic 45, 3) := by decide +kernel
theorem dX1_releaseFrom_7 : decode cX1_releaseFrom 7 = .ok (.ifCond .eq 12, 3) := by decide +kernel
theorem dX1_releaseFrom_10 : decode cX1_releaseFrom 10 = .ok (.aload_n 0, 1) := by decide +kernel
theorem dX1_releaseFrom_11 : decode cX1_releaseFrom 11 = .ok (.getfield 15, 3) := by decide +kernel
theorem dX1_releaseFrom_14 : decode cX1_releaseFrom 14 = .ok (.iload_n 2, 1) := by decide +kernel
theorem dX1_releaseFrom_15 : decode cX1_releaseFrom 15 = .ok (.iaload, 1) := by decide +kernel
theorem dX1_releaseFrom_16 : decode cX1_releaseFrom 16 = .ok (.goto 4, 3) := by decide +kernel
theorem dX1_releaseFrom_19 : decode cX1_releaseFrom 19 = .ok (.iconst (-1), 1) := by decide +kernel
theorem dX1_releaseFrom_20 : decode cX1_releaseFrom 20 = .ok (.istore 5, 2) := by decide +kernel
theorem dX1_releaseFrom_22 : decode cX1_releaseFrom 22 = .ok (.iconst 0, 1) := by decide +kernel
theorem dX1_releaseFrom_23 : decode cX1_releaseFrom 23 = .ok (.istore 6, 2) := by decide +kernel
theorem dX1_releaseFrom_25 : decode cX1_releaseFrom 25 = .ok (.iload 6, 2) := by decide +kernel
theorem dX1_releaseFrom_27 : decode cX1_releaseFrom 27 = .ok (.bipush 40, 2) := by decide +kernel
theorem dX1_releaseFrom_29 : decode cX1_releaseFrom 29 = .ok (.if_icmp .ge 60, 3) := by decide +kernel
theorem dX1_releaseFrom_32 : decode cX1_releaseFrom 32 = .ok (.iload 4, 2) := by decide +kernel
theorem dX1_releaseFrom_34 : decode cX1_releaseFrom 34 = .ok (.ifCond .le 55, 3) := by decide +kernel
theorem dX1_releaseFrom_37 : decode cX1_releaseFrom 37 = .ok (.iload 5, 2) := by decide +kernel
theorem dX1_releaseFrom_39 : decode cX1_releaseFrom 39 = .ok (.invokestatic 48, 3) := by decide +kernel
theorem dX1_releaseFrom_42 : decode cX1_releaseFrom 42 = .ok (.ifCond .eq 47, 3) := by decide +kernel
theorem dX1_releaseFrom_45 : decode cX1_releaseFrom 45 = .ok (.iload 4, 2) := by decide +kernel
theorem dX1_releaseFrom_47 : decode cX1_releaseFrom 47 = .ok (.aload_n 1, 1) := by decide +kernel
theorem dX1_releaseFrom_48 : decode cX1_releaseFrom 48 = .ok (.getfield 38, 3) := by decide +kernel
theorem dX1_releaseFrom_51 : decode cX1_releaseFrom 51 = .ok (.iload 5, 2) := by decide +kernel
theorem dX1_releaseFrom_53 : decode cX1_releaseFrom 53 = .ok (.iaload, 1) := by decide +kernel
theorem dX1_releaseFrom_54 : decode cX1_releaseFrom 54 = .ok (.invokestatic 51, 3) := by decide +kernel
theorem dX1_releaseFrom_57 : decode cX1_releaseFrom 57 = .ok (.istore 7, 2) := by decide +kernel
theorem dX1_releaseFrom_59 : decode cX1_releaseFrom 59 = .ok (.aload_n 1, 1) := by decide +kernel
theorem dX1_releaseFrom_60 : decode cX1_releaseFrom 60 = .ok (.iload 5, 2) := by decide +kernel
theorem dX1_releaseFrom_62 : decode cX1_releaseFrom 62 = .ok (.iload 7, 2) := by decide +kernel
theorem dX1_releaseFrom_64 : decode cX1_releaseFrom 64 = .ok (.invokevirtual 57, 3) := by decide +kernel
theorem dX1_releaseFrom_67 : decode cX1_releaseFrom 67 = .ok (.iload 4, 2) := by decide +kernel
theorem dX1_releaseFrom_69 : decode cX1_releaseFrom 69 = .ok (.iload 7, 2) := by decide +kernel
theorem dX1_releaseFrom_71 : decode cX1_releaseFrom 71 = .ok (.isub, 1) := by decide +kernel
theorem dX1_releaseFrom_72 : decode cX1_releaseFrom 72 = .ok (.istore 4, 2) := by decide +kernel
theorem dX1_releaseFrom_74 : decode cX1_releaseFrom 74 = .ok (.aload_n 0, 1) := by decide +kernel
theorem dX1_releaseFrom_75 : decode cX1_releaseFrom 75 = .ok (.getfield 18, 3) := by decide +kernel
theorem dX1_releaseFrom_78 : decode cX1_releaseFrom 78 = .ok (.iload 5, 2) := by decide +kernel
theorem dX1_releaseFrom_80 : decode cX1_releaseFrom 80 = .ok (.iaload, 1) := by decide +kernel
theorem dX1_releaseFrom_81 : decode cX1_releaseFrom 81 = .ok (.istore 5, 2) := by decide +kernel
theorem dX1_releaseFrom_83 : decode cX1_releaseFrom 83 = .ok (.iinc 6 1, 3) := by decide +kernel
theorem dX1_releaseFrom_86 : decode cX1_releaseFrom 86 = .ok (.goto (-61), 3) := by decide +kernel
theorem dX1_releaseFrom_89 : decode cX1_releaseFrom 89 = .ok (.return_, 1) := by decide +kernel
theorem dX2_init_0 : decode cX2_init 0 = .ok (.aload_n 0, 1) := by decide +kernel
theorem dX2_init_1 : decode cX2_init 1 = .ok (.invokespecial 3, 3) := by decide +kernel
theorem dX2_init_4 : decode cX2_init 4 = .ok (.aload_n 0, 1) := by decide +kernel
theorem dX2_init_5 : decode cX2_init 5 = .ok (.bipush 100, 2) := by decide +kernel
theorem dX2_init_7 : decode cX2_init 7 = .ok (.newarray .int, 2) := by decide +kernel
theorem dX2_init_9 : decode cX2_init 9 = .ok (.putfield 9, 3) := by decide +kernel
theorem dX2_init_12 : decode cX2_init 12 = .ok (.return_, 1) := by decide +kernel
theorem dX3_init_0 : decode cX3_init 0 = .ok (.aload_n 0, 1) := by decide +kernel
theorem dX3_init_1 : decode cX3_init 1 = .ok (.invokespecial 3, 3) := by decide +kernel
theorem dX3_init_4 : decode cX3_init 4 = .ok (.aload_n 0, 1) := by decide +kernel
theorem dX3_init_5 : decode cX3_init 5 = .ok (.bipush 40, 2) := by decide +kernel
theorem dX3_init_7 : decode cX3_init 7 = .ok (.newarray .int, 2) := by decide +kernel
theorem dX3_init_9 : decode cX3_init 9 = .ok (.putfield 9, 3) := by decide +kernel
theorem dX3_init_12 : decode cX3_init 12 = .ok (.aload_n 0, 1) := by decide +kernel
theorem dX3_init_13 : decode cX3_init 13 = .ok (.bipush 7, 2) := by decide +kernel
theorem dX3_init_15 : decode cX3_init 15 = .ok (.newarray .int, 2) := by decide +kernel
theorem dX3_init_17 : decode cX3_init 17 = .ok (.putfield 15, 3) := by decide +kernel
theorem dX3_init_20 : decode cX3_init 20 = .ok (.aload_n 0, 1) := by decide +kernel
theorem dX3_init_21 : decode cX3_init 21 = .ok (.bipush 7, 2) := by decide +kernel
theorem dX3_init_23 : decode cX3_init 23 = .ok (.newarray .int, 2) := by decide +kernel
theorem dX3_init_25 : decode cX3_init 25 = .ok (.putfield 18, 3) := by decide +kernel
theorem dX3_init_28 : decode cX3_init 28 = .ok (.aload_n 0, 1) := by decide +kernel
theorem dX3_init_29 : decode cX3_init 29 = .ok (.bipush 7, 2) := by decide +kernel
theorem dX3_init_31 : decode cX3_init 31 = .ok (.newarray .int, 2) := by decide +kernel
theorem dX3_init_33 : decode cX3_init 33 = .ok (.putfield 21, 3) := by decide +kernel
theorem dX3_init_36 : decode cX3_init 36 = .ok (.return_, 1) := by decide +kernel
theorem dX3_leastCostOf_0 : decode cX3_leastCostOf 0 = .ok (.aload_n 0, 1) := by decide +kernel
theorem dX3_leastCostOf_1 : decode cX3_leastCostOf 1 = .ok (.aload_n 1, 1) := by decide +kernel
theorem dX3_leastCostOf_2 : decode cX3_leastCostOf 2 = .ok (.invokevirtual 24, 3) := by decide +kernel
theorem dX3_leastCostOf_5 : decode cX3_leastCostOf 5 = .ok (.iconst 0, 1) := by decide +kernel
theorem dX3_leastCostOf_6 : decode cX3_leastCostOf 6 = .ok (.istore_n 2, 1) := by decide +kernel
theorem dX3_leastCostOf_7 : decode cX3_leastCostOf 7 = .ok (.aload_n 0, 1) := by decide +kernel
theorem dX3_leastCostOf_8 : decode cX3_leastCostOf 8 = .ok (.aload_n 1, 1) := by decide +kernel
theorem dX3_leastCostOf_9 : decode cX3_leastCostOf 9 = .ok (.invokevirtual 28, 3) := by decide +kernel
theorem dX3_leastCostOf_12 : decode cX3_leastCostOf 12 = .ok (.aload_n 0, 1) := by decide +kernel
theorem dX3_leastCostOf_13 : decode cX3_leastCostOf 13 = .ok (.invokevirtual 31, 3) := by decide +kernel
theorem dX3_leastCostOf_16 : decode cX3_leastCostOf 16 = .ok (.istore_n 3, 1) := by decide +kernel
theorem dX3_leastCostOf_17 : decode cX3_leastCostOf 17 = .ok (.iload_n 2, 1) := by decide +kernel
theorem dX3_leastCostOf_18 : decode cX3_leastCostOf 18 = .ok (.ldc 35, 2) := by decide +kernel
theorem dX3_leastCostOf_20 : decode cX3_leastCostOf 20 = .ok (.if_icmp .ge 30, 3) := by decide +kernel
theorem dX3_leastCostOf_23 : decode cX3_leastCostOf 23 = .ok (.iload_n 3, 1) := by decide +kernel
theorem dX3_leastCostOf_24 : decode cX3_leastCostOf 24 = .ok (.iconst (-1), 1) := by decide +kernel
theorem dX3_leastCostOf_25 : decode cX3_leastCostOf 25 = .ok (.if_icmp .eq 25, 3) := by decide +kernel
theorem dX3_leastCostOf_28 : decode cX3_leastCostOf 28 = .ok (.aload_n 0, 1) := by decide +kernel
theorem dX3_leastCostOf_29 : decode cX3_leastCostOf 29 = .ok (.aload_n 1, 1) := by decide +kernel
theorem dX3_leastCostOf_30 : decode cX3_leastCostOf 30 = .ok (.iload_n 3, 1) := by decide +kernel
theorem dX3_leastCostOf_31 : decode cX3_leastCostOf 31 = .ok (.invokevirtual 36, 3) := by decide +kernel
theorem dX3_leastCostOf_34 : decode cX3_leastCostOf 34 = .ok (.iinc 2 1, 3) := by decide +kernel
theorem dX3_leastCostOf_37 : decode cX3_leastCostOf 37 = .ok (.aload_n 0, 1) := by decide +kernel
theorem dX3_leastCostOf_38 : decode cX3_leastCostOf 38 = .ok (.aload_n 1, 1) := by decide +kernel
theorem dX3_leastCostOf_39 : decode cX3_leastCostOf 39 = .ok (.invokevirtual 28, 3) := by decide +kernel
theorem dX3_leastCostOf_42 : decode cX3_leastCostOf 42 = .ok (.aload_n 0, 1) := by decide +kernel
theorem dX3_leastCostOf_43 : decode cX3_leastCostOf 43 = .ok (.invokevirtual 31, 3) := by decide +kernel
theorem dX3_leastCostOf_46 : decode cX3_leastCostOf 46 = .ok (.istore_n 3, 1) := by decide +kernel
theorem dX3_leastCostOf_47 : decode cX3_leastCostOf 47 = .ok (.goto (-30), 3) := by decide +kernel
theorem dX3_leastCostOf_50 : decode cX3_leastCostOf 50 = .ok (.aload_n 0, 1) := by decide +kernel
theorem dX3_leastCostOf_51 : decode cX3_leastCostOf 51 = .ok (.aload_n 1, 1) := by decide +kernel
theorem dX3_leastCostOf_52 : decode cX3_leastCostOf 52 = .ok (.invokevirtual 40, 3) := by decide +kernel
theorem dX3_leastCostOf_55 : decode cX3_leastCostOf 55 = .ok (.ireturn, 1) := by decide +kernel
theorem dX3_start_0 : decode cX3_start 0 = .ok (.iconst 0, 1) := by decide +kernel
theorem dX3_start_1 : decode cX3_start 1 = .ok (.istore_n 2, 1) := by decide +kernel
theorem dX3_start_2 : decode cX3_start 2 = .ok (.iload_n 2, 1) := by decide +kernel
theorem dX3_start_3 : decode cX3_start 3 = .ok (.bipush 7, 2) := by decide +kernel
theorem dX3_start_5 : decode cX3_start 5 = .ok (.if_icmp .ge 16, 3) := by decide +kernel
theorem dX3_start_8 : decode cX3_start 8 = .ok (.aload_n 0, 1) := by decide +kernel
theorem dX3_start_9 : decode cX3_start 9 = .ok (.getfield 15, 3) := by decide +kernel
theorem dX3_start_12 : decode cX3_start 12 = .ok (.iload_n 2, 1) := by decide +kernel
theorem dX3_start_13 : decode cX3_start 13 = .ok (.iconst 0, 1) := by decide +kernel
theorem dX3_start_14 : decode cX3_start 14 = .ok (.iastore, 1) := by decide +kernel
theorem dX3_start_15 : decode cX3_start 15 = .ok (.iinc 2 1, 3) := by decide +kernel
theorem dX3_start_18 : decode cX3_start 18 = .ok (.goto (-16), 3) := by decide +kernel
theorem dX3_start_21 : decode cX3_start 21 = .ok (.iconst 0, 1) := by decide +kernel
theorem dX3_start_22 : decode cX3_start 22 = .ok (.istore_n 2, 1) := by decide +kernel
theorem dX3_start_23 : decode cX3_start 23 = .ok (.iload_n 2, 1) := by decide +kernel
theorem dX3_start_24 : decode cX3_start 24 = .ok (.aload_n 1, 1) := by decide +kernel
theorem dX3_start_25 : decode cX3_start 25 = .ok (.getfield 44, 3) := by decide +kernel
theorem dX3_start_28 : decode cX3_start 28 = .ok (.if_icmp .ge 57, 3) := by decide +kernel
theorem dX3_start_31 : decode cX3_start 31 = .ok (.aload_n 0, 1) := by decide +kernel
theorem dX3_start_32 : decode cX3_start 32 = .ok (.getfield 9, 3) := by decide +kernel
theorem dX3_start_35 : decode cX3_start 35 = .ok (.iload_n 2, 1) := by decide +kernel
theorem dX3_start_36 : decode cX3_start 36 = .ok (.iconst 0, 1) := by decide +kernel
theorem dX3_start_37 : decode cX3_start 37 = .ok (.iastore, 1) := by decide +kernel
theorem dX3_start_38 : decode cX3_start 38 = .ok (.aload_n 1, 1) := by decide +kernel
theorem dX3_start_39 : decode cX3_start 39 = .ok (.iload_n 2, 1) := by decide +kernel
theorem dX3_start_40 : decode cX3_start 40 = .ok (.invokevirtual 50, 3) := by decide +kernel
theorem dX3_start_43 : decode cX3_start 43 = .ok (.ifCond .eq 36, 3) := by decide +kernel
theorem dX3_start_46 : decode cX3_start 46 = .ok (.aload_n 0, 1) := by decide +kernel
theorem dX3_start_47 : decode cX3_start 47 = .ok (.aload_n 1, 1) := by decide +kernel
theorem dX3_start_48 : decode cX3_start 48 = .ok (.getfield 54, 3) := by decide +kernel
theorem dX3_start_51 : decode cX3_start 51 = .ok (.iload_n 2, 1) := by decide +kernel
theorem dX3_start_52 : decode cX3_start 52 = .ok (.iaload, 1) := by decide +kernel
theorem dX3_start_53 : decode cX3_start 53 = .ok (.aload_n 1, 1) := by decide +kernel
theorem dX3_start_54 : decode cX3_start 54 = .ok (.getfield 57, 3) := by decide +kernel
theorem dX3_start_57 : decode cX3_start 57 = .ok (.iload_n 2, 1) := by decide +kernel
theorem dX3_start_58 : decode cX3_start 58 = .ok (.iaload, 1) := by decide +kernel
theorem dX3_start_59 : decode cX3_start 59 = .ok (.invokevirtual 60, 3) := by decide +kernel
theorem dX3_start_62 : decode cX3_start 62 = .ok (.aload_n 0, 1) := by decide +kernel
theorem dX3_start_63 : decode cX3_start 63 = .ok (.aload_n 1, 1) := by decide +kernel
theorem dX3_start_64 : decode cX3_start 64 = .ok (.getfield 64, 3) := by decide +kernel
theorem dX3_start_67 : decode cX3_start 67 = .ok (.iload_n 2, 1) := by decide +kernel
theorem dX3_start_68 : decode cX3_start 68 = .ok (.iaload, 1) := by decide +kernel
theorem dX3_start_69 : decode cX3_start 69 = .ok (.aload_n 1, 1) := by decide +kernel
theorem dX3_start_70 : decode cX3_start 70 = .ok (.getfield 57, 3) := by decide +kernel
theorem dX3_start_73 : decode cX3_start 73 = .ok (.iload_n 2, 1) := by decide +kernel
theorem dX3_start_74 : decode cX3_start 74 = .ok (.iaload, 1) := by decide +kernel
theorem dX3_start_75 : decode cX3_start 75 = .ok (.ineg, 1) := by decide +kernel
theorem dX3_start_76 : decode cX3_start 76 = .ok (.invokevirtual 60, 3) := by decide +kernel
theorem dX3_start_79 : decode cX3_start 79 = .ok (.iinc 2 1, 3) := by decide +kernel
theorem dX3_start_82 : decode cX3_start 82 = .ok (.goto (-59), 3) := by decide +kernel
theorem dX3_start_85 : decode cX3_start 85 = .ok (.return_, 1) := by decide +kernel
theorem dX3_addExcess_0 : decode cX3_addExcess 0 = .ok (.iload_n 1, 1) := by decide +kernel
theorem dX3_addExcess_1 : decode cX3_addExcess 1 = .ok (.invokestatic 67, 3) := by decide +kernel
theorem dX3_addExcess_4 : decode cX3_addExcess 4 = .ok (.ifCond .eq 13, 3) := by decide +kernel
theorem dX3_addExcess_7 : decode cX3_addExcess 7 = .ok (.aload_n 0, 1) := by decide +kernel
theorem dX3_addExcess_8 : decode cX3_addExcess 8 = .ok (.getfield 15, 3) := by decide +kernel
theorem dX3_addExcess_11 : decode cX3_addExcess 11 = .ok (.iload_n 1, 1) := by decide +kernel
theorem dX3_addExcess_12 : decode cX3_addExcess 12 = .ok (.dup2, 1) := by decide +kernel
theorem dX3_addExcess_13 : decode cX3_addExcess 13 = .ok (.iaload, 1) := by decide +kernel
theorem dX3_addExcess_14 : decode cX3_addExcess 14 = .ok (.iload_n 2, 1) := by decide +kernel
theorem dX3_addExcess_15 : decode cX3_addExcess 15 = .ok (.iadd, 1) := by decide +kernel
theorem dX3_addExcess_16 : decode cX3_addExcess 16 = .ok (.iastore, 1) := by decide +kernel
theorem dX3_addExcess_17 : decode cX3_addExcess 17 = .ok (.return_, 1) := by decide +kernel
theorem dX3_measure_0 : decode cX3_measure 0 = .ok (.iconst 0, 1) := by decide +kernel
theorem dX3_measure_1 : decode cX3_measure 1 = .ok (.istore_n 2, 1) := by decide +kernel
theorem dX3_measure_2 : decode cX3_measure 2 = .ok (.iload_n 2, 1) := by decide +kernel
theorem dX3_measure_3 : decode cX3_measure 3 = .ok (.bipush 7, 2) := by decide +kernel
theorem dX3_measure_5 : decode cX3_measure 5 = .ok (.if_icmp .ge 37, 3) := by decide +kernel
theorem dX3_measure_8 : decode cX3_measure 8 = .ok (.aload_n 0, 1) := by decide +kernel
theorem dX3_measure_9 : decode cX3_measure 9 = .ok (.getfield 18, 3) := by decide +kernel
theorem dX3_measure_12 : decode cX3_measure 12 = .ok (.iload_n 2, 1) := by decide +kernel
theorem dX3_measure_13 : decode cX3_measure 13 = .ok (.aload_n 0, 1) := by decide +kernel
theorem dX3_measure_14 : decode cX3_measure 14 = .ok (.getfield 15, 3) := by decide +kernel
theorem dX3_measure_17 : decode cX3_measure 17 = .ok (.iload_n 2, 1) := by decide +kernel
theorem dX3_measure_18 : decode cX3_measure 18 = .ok (.iaload, 1) := by decide +kernel
theorem dX3_measure_19 : decode cX3_measure 19 = .ok (.ifCond .le 7, 3) := by decide +kernel
theorem dX3_measure_22 : decode cX3_measure 22 = .ok (.iconst 0, 1) := by decide +kernel
theorem dX3_measure_23 : decode cX3_measure 23 = .ok (.goto 5, 3) := by decide +kernel
theorem dX3_measure_26 : decode cX3_measure 26 = .ok (.ldc 70, 2) := by decide +kernel
theorem dX3_measure_28 : decode cX3_measure 28 = .ok (.iastore, 1) := by decide +kernel
theorem dX3_measure_29 : decode cX3_measure 29 = .ok (.aload_n 0, 1) := by decide +kernel
theorem dX3_measure_30 : decode cX3_measure 30 = .ok (.getfield 21, 3) := by decide +kernel
theorem dX3_measure_33 : decode cX3_measure 33 = .ok (.iload_n 2, 1) := by decide +kernel
theorem dX3_measure_34 : decode cX3_measure 34 = .ok (.iconst (-1), 1) := by decide +kernel
theorem dX3_measure_35 : decode cX3_measure 35 = .ok (.iastore, 1) := by decide +kernel
theorem dX3_measure_36 : decode cX3_measure 36 = .ok (.iinc 2 1, 3) := by decide +kernel
theorem dX3_measure_39 : decode cX3_measure 39 = .ok (.goto (-37), 3) := by decide +kernel
theorem dX3_measure_42 : decode cX3_measure 42 = .ok (.iconst 1, 1) := by decide +kernel
theorem dX3_measure_43 : decode cX3_measure 43 = .ok (.istore_n 2, 1) := by decide +kernel
theorem dX3_measure_44 : decode cX3_measure 44 = .ok (.iconst 0, 1) := by decide +kernel
theorem dX3_measure_45 : decode cX3_measure 45 = .ok (.istore_n 3, 1) := by decide +kernel
theorem dX3_measure_46 : decode cX3_measure 46 = .ok (.iload_n 3, 1) := by decide +kernel
theorem dX3_measure_47 : decode cX3_measure 47 = .ok (.bipush 7, 2) := by decide +kernel
theorem dX3_measure_49 : decode cX3_measure 49 = .ok (.if_icmp .ge 54, 3) := by decide +kernel
theorem dX3_measure_52 : decode cX3_measure 52 = .ok (.iload_n 2, 1) := by decide +kernel
theorem dX3_measure_53 : decode cX3_measure 53 = .ok (.ifCond .eq 50, 3) := by decide +kernel
theorem dX3_measure_56 : decode cX3_measure 56 = .ok (.iconst 0, 1) := by decide +kernel
theorem dX3_measure_57 : decode cX3_measure 57 = .ok (.istore_n 2, 1) := by decide +kernel
theorem dX3_measure_58 : decode cX3_measure 58 = .ok (.iconst 0, 1) := by decide +kernel
theorem dX3_measure_59 : decode cX3_measure 59 = .ok (.istore 4, 2) := by decide +kernel
theorem dX3_measure_61 : decode cX3_measure 61 = .ok (.iload 4, 2) := by decide +kernel
theorem dX3_measure_63 : decode cX3_measure 63 = .ok (.aload_n 1, 1) := by decide +kernel
theorem dX3_measure_64 : decode cX3_measure 64 = .ok (.getfield 44, 3) := by decide +kernel
theorem dX3_measure_67 : decode cX3_measure 67 = .ok (.if_icmp .ge 30, 3) := by decide +kernel
theorem dX3_measure_70 : decode cX3_measure 70 = .ok (.aload_n 1, 1) := by decide +kernel
theorem dX3_measure_71 : decode cX3_measure 71 = .ok (.iload 4, 2) := by decide +kernel
theorem dX3_measure_73 : decode cX3_measure 73 = .ok (.invokevirtual 50, 3) := by decide +kernel
theorem dX3_measure_76 : decode cX3_measure 76 = .ok (.ifCond .eq 15, 3) := by decide +kernel
theorem dX3_measure_79 : decode cX3_measure 79 = .ok (.aload_n 0, 1) := by decide +kernel
theorem dX3_measure_80 : decode cX3_measure 80 = .ok (.aload_n 1, 1) := by decide +kernel
theorem dX3_measure_81 : decode cX3_measure 81 = .ok (.iload 4, 2) := by decide +kernel
theorem dX3_measure_83 : decode cX3_measure 83 = .ok (.invokevirtual 71, 3) := by decide +kernel
theorem dX3_measure_86 : decode cX3_measure 86 = .ok (.ifCond .eq 5, 3) := by decide +kernel
theorem dX3_measure_89 : decode cX3_measure 89 = .ok (.iconst 1, 1) := by decide +kernel
theorem dX3_measure_90 : decode cX3_measure 90 = .ok (.istore_n 2, 1) := by decide +kernel
theorem dX3_measure_91 : decode cX3_measure 91 = .ok (.iinc 4 1, 3) := by decide +kernel
theorem dX3_measure_94 : decode cX3_measure 94 = .ok (.goto (-33), 3) := by decide +kernel
theorem dX3_measure_97 : decode cX3_measure 97 = .ok (.iinc 3 1, 3) := by decide +kernel
theorem dX3_measure_100 : decode cX3_measure 100 = .ok (.goto (-54), 3) := by decide +kernel
theorem dX3_measure_103 : decode cX3_measure 103 = .ok (.return_, 1) := by decide +kernel
theorem dX3_shorten_0 : decode cX3_shorten 0 = .ok (.iconst 0, 1) := by decide +kernel
theorem dX3_shorten_1 : decode cX3_shorten 1 = .ok (.istore_n 3, 1) := by decide +kernel
theorem dX3_shorten_2 : decode cX3_shorten 2 = .ok (.aload_n 0, 1) := by decide +kernel
theorem dX3_shorten_3 : decode cX3_shorten 3 = .ok (.getfield 9, 3) := by decide +kernel
theorem dX3_shorten_6 : decode cX3_shorten 6 = .ok (.iload_n 2, 1) := by decide +kernel
theorem dX3_shorten_7 : decode cX3_shorten 7 = .ok (.iaload, 1) := by decide +kernel
theorem dX3_shorten_8 : decode cX3_shorten 8 = .ok (.aload_n 1, 1) := by decide +kernel
theorem dX3_shorten_9 : decode cX3_shorten 9 = .ok (.getfield 57, 3) := by decide +kernel
theorem dX3_shorten_12 : decode cX3_shorten 12 = .ok (.iload_n 2, 1) := by decide +kernel
theorem dX3_shorten_13 : decode cX3_shorten 13 = .ok (.iaload, 1) := by decide +kernel
theorem dX3_shorten_14 : decode cX3_shorten 14 = .ok (.if_icmp .ge 27, 3) := by decide +kernel
theorem dX3_shorten_17 : decode cX3_shorten 17 = .ok (.aload_n 0, 1) := by decide +kernel
theorem dX3_shorten_18 : decode cX3_shorten 18 = .ok (.aload_n 1, 1) := by decide +kernel
theorem dX3_shorten_19 : decode cX3_shorten 19 = .ok (.getfield 54, 3) := by decide +kernel
theorem dX3_shorten_22 : decode cX3_shorten 22 = .ok (.iload_n 2, 1) := by decide +kernel
theorem dX3_shorten_23 : decode cX3_shorten 23 = .ok (.iaload, 1) := by decide +kernel
theorem dX3_shorten_24 : decode cX3_shorten 24 = .ok (.aload_n 1, 1) := by decide +kernel
theorem dX3_shorten_25 : decode cX3_shorten 25 = .ok (.getfield 64, 3) := by decide +kernel
theorem dX3_shorten_28 : decode cX3_shorten 28 = .ok (.iload_n 2, 1) := by decide +kernel
theorem dX3_shorten_29 : decode cX3_shorten 29 = .ok (.iaload, 1) := by decide +kernel
theorem dX3_shorten_30 : decode cX3_shorten 30 = .ok (.aload_n 1, 1) := by decide +kernel
theorem dX3_shorten_31 : decode cX3_shorten 31 = .ok (.getfield 75, 3) := by decide +kernel
theorem dX3_shorten_34 : decode cX3_shorten 34 = .ok (.iload_n 2, 1) := by decide +kernel
theorem dX3_shorten_35 : decode cX3_shorten 35 = .ok (.iaload, 1) := by decide +kernel
theorem dX3_shorten_36 : decode cX3_shorten 36 = .ok (.iload_n 2, 1) := by decide +kernel
theorem dX3_shorten_37 : decode cX3_shorten 37 = .ok (.invokevirtual 78, 3) := by decide +kernel
theorem dX3_shorten_40 : decode cX3_shorten 40 = .ok (.istore_n 3, 1) := by decide +kernel
theorem dX3_shorten_41 : decode cX3_shorten 41 = .ok (.aload_n 0, 1) := by decide +kernel
theorem dX3_shorten_42 : decode cX3_shorten 42 = .ok (.getfield 9, 3) := by decide +kernel
theorem dX3_shorten_45 : decode cX3_shorten 45 = .ok (.iload_n 2, 1) := by decide +kernel
theorem dX3_shorten_46 : decode cX3_shorten 46 = .ok (.iaload, 1) := by decide +kernel
theorem dX3_shorten_47 : decode cX3_shorten 47 = .ok (.ifCond .le 32, 3) := by decide +kernel
theorem dX3_shorten_50 : decode cX3_shorten 50 = .ok (.aload_n 0, 1) := by decide +kernel
theorem dX3_shorten_51 : decode cX3_shorten 51 = .ok (.aload_n 1, 1) := by decide +kernel
theorem dX3_shorten_52 : decode cX3_shorten 52 = .ok (.getfield 64, 3) := by decide +kernel
theorem dX3_shorten_55 : decode cX3_shorten 55 = .ok (.iload_n 2, 1) := by decide +kernel
theorem dX3_shorten_56 : decode cX3_shorten 56 = .ok (.iaload, 1) := by decide +kernel
theorem dX3_shorten_57 : decode cX3_shorten 57 = .ok (.aload_n 1, 1) := by decide +kernel
theorem dX3_shorten_58 : decode cX3_shorten 58 = .ok (.getfield 54, 3) := by decide +kernel
theorem dX3_shorten_61 : decode cX3_shorten 61 = .ok (.iload_n 2, 1) := by decide +kernel
theorem dX3_shorten_62 : decode cX3_shorten 62 = .ok (.iaload, 1) := by decide +kernel
theorem dX3_shorten_63 : decode cX3_shorten 63 = .ok (.aload_n 1, 1) := by decide +kernel
theorem dX3_shorten_64 : decode cX3_shorten 64 = .ok (.getfield 75, 3) := by decide +kernel
theorem dX3_shorten_67 : decode cX3_shorten 67 = .ok (.iload_n 2, 1) := by decide +kernel
theorem dX3_shorten_68 : decode cX3_shorten 68 = .ok (.iaload, 1) := by decide +kernel
theorem dX3_shorten_69 : decode cX3_shorten 69 = .ok (.ineg, 1) := by decide +kernel
theorem dX3_shorten_70 : decode cX3_shorten 70 = .ok (.iload_n 2, 1) := by decide +kernel
theorem dX3_shorten_71 : decode cX3_shorten 71 = .ok (.invokevirtual 78, 3) := by decide +kernel
theorem dX3_shorten_74 : decode cX3_shorten 74 = .ok (.ifCond .eq 5, 3) := by decide +kernel
theorem dX3_shorten_77 : decode cX3_shorten 77 = .ok (.iconst 1, 1) := by decide +kernel
theorem dX3_shorten_78 : decode cX3_shorten 78 = .ok (.istore_n 3, 1) := by decide +kernel
theorem dX3_shorten_79 : decode cX3_shorten 79 = .ok (.iload_n 3, 1) := by decide +kernel
theorem dX3_shorten_80 : decode cX3_shorten 80 = .ok (.ireturn, 1) := by decide +kernel
theorem dX3_reach_0 : decode cX3_reach 0 = .ok (.iload_n 1, 1) := by decide +kernel
theorem dX3_reach_1 : decode cX3_reach 1 = .ok (.invokestatic 67, 3) := by decide +kernel
theorem dX3_reach_4 : decode cX3_reach 4 = .ok (.ifCond .eq 38, 3) := by decide +kernel
theorem dX3_reach_7 : decode cX3_reach 7 = .ok (.iload_n 2, 1) := by decide +kernel
theorem dX3_reach_8 : decode cX3_reach 8 = .ok (.invokestatic 67, 3) := by decide +kernel
theorem dX3_reach_11 : decode cX3_reach 11 = .ok (.ifCond .eq 31, 3) := by decide +kernel
theorem dX3_reach_14 : decode cX3_reach 14 = .ok (.aload_n 0, 1) := by decide +kernel
theorem dX3_reach_15 : decode cX3_reach 15 = .ok (.getfield 18, 3) := by decide +kernel
theorem dX3_reach_18 : decode cX3_reach 18 = .ok (.iload_n 1, 1) := by decide +kernel
theorem dX3_reach_19 : decode cX3_reach 19 = .ok (.iaload, 1) := by decide +kernel
theorem dX3_reach_20 : decode cX3_reach 20 = .ok (.ldc 70, 2) := by decide +kernel
theorem dX3_reach_22 : decode cX3_reach 22 = .ok (.if_icmp .eq 20, 3) := by decide +kernel
theorem dX3_reach_25 : decode cX3_reach 25 = .ok (.aload_n 0, 1) := by decide +kernel
theorem dX3_reach_26 : decode cX3_reach 26 = .ok (.getfield 18, 3) := by decide +kernel
theorem dX3_reach_29 : decode cX3_reach 29 = .ok (.iload_n 1, 1) := by decide +kernel
theorem dX3_reach_30 : decode cX3_reach 30 = .ok (.iaload, 1) := by decide +kernel
theorem dX3_reach_31 : decode cX3_reach 31 = .ok (.iload_n 3, 1) := by decide +kernel
theorem dX3_reach_32 : decode cX3_reach 32 = .ok (.iadd, 1) := by decide +kernel
theorem dX3_reach_33 : decode cX3_reach 33 = .ok (.aload_n 0, 1) := by decide +kernel
theorem dX3_reach_34 : decode cX3_reach 34 = .ok (.getfield 18, 3) := by decide +kernel
theorem dX3_reach_37 : decode cX3_reach 37 = .ok (.iload_n 2, 1) := by decide +kernel
theorem dX3_reach_38 : decode cX3_reach 38 = .ok (.iaload, 1) := by decide +kernel
theorem dX3_reach_39 : decode cX3_reach 39 = .ok (.if_icmp .lt 5, 3) := by decide +kernel
theorem dX3_reach_42 : decode cX3_reach 42 = .ok (.iconst 0, 1) := by decide +kernel
theorem dX3_reach_43 : decode cX3_reach 43 = .ok (.ireturn, 1) := by decide +kernel
theorem dX3_reach_44 : decode cX3_reach 44 = .ok (.aload_n 0, 1) := by decide +kernel
theorem dX3_reach_45 : decode cX3_reach 45 = .ok (.getfield 18, 3) := by decide +kernel
theorem dX3_reach_48 : decode cX3_reach 48 = .ok (.iload_n 2, 1) := by decide +kernel
theorem dX3_reach_49 : decode cX3_reach 49 = .ok (.aload_n 0, 1) := by decide +kernel
theorem dX3_reach_50 : decode cX3_reach 50 = .ok (.getfield 18, 3) := by decide +kernel
theorem dX3_reach_53 : decode cX3_reach 53 = .ok (.iload_n 1, 1) := by decide +kernel
theorem dX3_reach_54 : decode cX3_reach 54 = .ok (.iaload, 1) := by decide +kernel
theorem dX3_reach_55 : decode cX3_reach 55 = .ok (.iload_n 3, 1) := by decide +kernel
theorem dX3_reach_56 : decode cX3_reach 56 = .ok (.iadd, 1) := by decide +kernel
theorem dX3_reach_57 : decode cX3_reach 57 = .ok (.iastore, 1) := by decide +kernel
theorem dX3_reach_58 : decode cX3_reach 58 = .ok (.aload_n 0, 1) := by decide +kernel
theorem dX3_reach_59 : decode cX3_reach 59 = .ok (.getfield 21, 3) := by decide +kernel
theorem dX3_reach_62 : decode cX3_reach 62 = .ok (.iload_n 2, 1) := by decide +kernel
theorem dX3_reach_63 : decode cX3_reach 63 = .ok (.iload 4, 2) := by decide +kernel
theorem dX3_reach_65 : decode cX3_reach 65 = .ok (.iastore, 1) := by decide +kernel
theorem dX3_reach_66 : decode cX3_reach 66 = .ok (.iconst 1, 1) := by decide +kernel
theorem dX3_reach_67 : decode cX3_reach 67 = .ok (.ireturn, 1) := by decide +kernel
theorem dX3_nearestEnd_0 : decode cX3_nearestEnd 0 = .ok (.iconst (-1), 1) := by decide +kernel
theorem dX3_nearestEnd_1 : decode cX3_nearestEnd 1 = .ok (.istore_n 1, 1) := by decide +kernel
theorem dX3_nearestEnd_2 : decode cX3_nearestEnd 2 = .ok (.ldc 70, 2) := by decide +kernel
theorem dX3_nearestEnd_4 : decode cX3_nearestEnd 4 = .ok (.istore_n 2, 1) := by decide +kernel
theorem dX3_nearestEnd_5 : decode cX3_nearestEnd 5 = .ok (.iconst 0, 1) := by decide +kernel
theorem dX3_nearestEnd_6 : decode cX3_nearestEnd 6 = .ok (.istore_n 3, 1) := by decide +kernel
theorem dX3_nearestEnd_7 : decode cX3_nearestEnd 7 = .ok (.iload_n 3, 1) := by decide +kernel
theorem dX3_nearestEnd_8 : decode cX3_nearestEnd 8 = .ok (.bipush 7, 2) := by decide +kernel
theorem dX3_nearestEnd_10 : decode cX3_nearestEnd 10 = .ok (.if_icmp .ge 37, 3) := by decide +kernel
theorem dX3_nearestEnd_13 : decode cX3_nearestEnd 13 = .ok (.aload_n 0, 1) := by decide +kernel
theorem dX3_nearestEnd_14 : decode cX3_nearestEnd 14 = .ok (.getfield 15, 3) := by decide +kernel
theorem dX3_nearestEnd_17 : decode cX3_nearestEnd 17 = .ok (.iload_n 3, 1) := by decide +kernel
theorem dX3_nearestEnd_18 : decode cX3_nearestEnd 18 = .ok (.iaload, 1) := by decide +kernel
theorem dX3_nearestEnd_19 : decode cX3_nearestEnd 19 = .ok (.ifCond .ge 22, 3) := by decide +kernel
theorem dX3_nearestEnd_22 : decode cX3_nearestEnd 22 = .ok (.aload_n 0, 1) := by decide +kernel
theorem dX3_nearestEnd_23 : decode cX3_nearestEnd 23 = .ok (.getfield 18, 3) := by decide +kernel
theorem dX3_nearestEnd_26 : decode cX3_nearestEnd 26 = .ok (.iload_n 3, 1) := by decide +kernel
theorem dX3_nearestEnd_27 : decode cX3_nearestEnd 27 = .ok (.iaload, 1) := by decide +kernel
theorem dX3_nearestEnd_28 : decode cX3_nearestEnd 28 = .ok (.iload_n 2, 1) := by decide +kernel
theorem dX3_nearestEnd_29 : decode cX3_nearestEnd 29 = .ok (.if_icmp .ge 12, 3) := by decide +kernel
theorem dX3_nearestEnd_32 : decode cX3_nearestEnd 32 = .ok (.iload_n 3, 1) := by decide +kernel
theorem dX3_nearestEnd_33 : decode cX3_nearestEnd 33 = .ok (.istore_n 1, 1) := by decide +kernel
theorem dX3_nearestEnd_34 : decode cX3_nearestEnd 34 = .ok (.aload_n 0, 1) := by decide +kernel
theorem dX3_nearestEnd_35 : decode cX3_nearestEnd 35 = .ok (.getfield 18, 3) := by decide +kernel
theorem dX3_nearestEnd_38 : decode cX3_nearestEnd 38 = .ok (.iload_n 3, 1) := by decide +kernel
theorem dX3_nearestEnd_39 : decode cX3_nearestEnd 39 = .ok (.iaload, 1) := by decide +kernel
theorem dX3_nearestEnd_40 : decode cX3_nearestEnd 40 = .ok (.istore_n 2, 1) := by decide +kernel
theorem dX3_nearestEnd_41 : decode cX3_nearestEnd 41 = .ok (.iinc 3 1, 3) := by decide +kernel
theorem dX3_nearestEnd_44 : decode cX3_nearestEnd 44 = .ok (.goto (-37), 3) := by decide +kernel
theorem dX3_nearestEnd_47 : decode cX3_nearestEnd 47 = .ok (.iload_n 1, 1) := by decide +kernel
theorem dX3_nearestEnd_48 : decode cX3_nearestEnd 48 = .ok (.ireturn, 1) := by decide +kernel
theorem dX3_push_0 : decode cX3_push 0 = .ok (.aload_n 0, 1) := by decide +kernel
theorem dX3_push_1 : decode cX3_push 1 = .ok (.aload_n 1, 1) := by decide +kernel
theorem dX3_push_2 : decode cX3_push 2 = .ok (.iload_n 2, 1) := by decide +kernel
theorem dX3_push_3 : decode cX3_push 3 = .ok (.invokevirtual 82, 3) := by decide +kernel
theorem dX3_push_6 : decode cX3_push 6 = .ok (.istore_n 3, 1) := by decide +kernel
theorem dX3_push_7 : decode cX3_push 7 = .ok (.iload_n 3, 1) := by decide +kernel
theorem dX3_push_8 : decode cX3_push 8 = .ok (.invokestatic 67, 3) := by decide +kernel
theorem dX3_push_11 : decode cX3_push 11 = .ok (.ifCond .ne 4, 3) := by decide +kernel
theorem dX3_push_14 : decode cX3_push 14 = .ok (.return_, 1) := by decide +kernel
theorem dX3_push_15 : decode cX3_push 15 = .ok (.aload_n 0, 1) := by decide +kernel
theorem dX3_push_16 : decode cX3_push 16 = .ok (.getfield 15, 3) := by decide +kernel
theorem dX3_push_19 : decode cX3_push 19 = .ok (.iload_n 3, 1) := by decide +kernel
theorem dX3_push_20 : decode cX3_push 20 = .ok (.iaload, 1) := by decide +kernel
theorem dX3_push_21 : decode cX3_push 21 = .ok (.aload_n 0, 1) := by decide +kernel
theorem dX3_push_22 : decode cX3_push 22 = .ok (.aload_n 1, 1) := by decide +kernel
theorem dX3_push_23 : decode cX3_push 23 = .ok (.iload_n 2, 1) := by decide +kernel
theorem dX3_push_24 : decode cX3_push 24 = .ok (.invokevirtual 86, 3) := by decide +kernel
theorem dX3_push_27 : decode cX3_push 27 = .ok (.invokestatic 89, 3) := by decide +kernel
theorem dX3_push_30 : decode cX3_push 30 = .ok (.istore 4, 2) := by decide +kernel
theorem dX3_push_32 : decode cX3_push 32 = .ok (.iload_n 2, 1) := by decide +kernel
theorem dX3_push_33 : decode cX3_push 33 = .ok (.istore 5, 2) := by decide +kernel
theorem dX3_push_35 : decode cX3_push 35 = .ok (.iconst 0, 1) := by decide +kernel
theorem dX3_push_36 : decode cX3_push 36 = .ok (.istore 6, 2) := by decide +kernel
theorem dX3_push_38 : decode cX3_push 38 = .ok (.iload 6, 2) := by decide +kernel
theorem dX3_push_40 : decode cX3_push 40 = .ok (.bipush 7, 2) := by decide +kernel
theorem dX3_push_42 : decode cX3_push 42 = .ok (.if_icmp .ge 66, 3) := by decide +kernel
theorem dX3_push_45 : decode cX3_push 45 = .ok (.aload_n 0, 1) := by decide +kernel
theorem dX3_push_46 : decode cX3_push 46 = .ok (.iload 5, 2) := by decide +kernel
theorem dX3_push_48 : decode cX3_push 48 = .ok (.invokevirtual 95, 3) := by decide +kernel
theorem dX3_push_51 : decode cX3_push 51 = .ok (.iconst (-1), 1) := by decide +kernel
theorem dX3_push_52 : decode cX3_push 52 = .ok (.if_icmp .eq 56, 3) := by decide +kernel
theorem dX3_push_55 : decode cX3_push 55 = .ok (.aload_n 0, 1) := by decide +kernel
theorem dX3_push_56 : decode cX3_push 56 = .ok (.iload 5, 2) := by decide +kernel
theorem dX3_push_58 : decode cX3_push 58 = .ok (.invokevirtual 95, 3) := by decide +kernel
theorem dX3_push_61 : decode cX3_push 61 = .ok (.istore 7, 2) := by decide +kernel
theorem dX3_push_63 : decode cX3_push 63 = .ok (.aload_n 0, 1) := by decide +kernel
theorem dX3_push_64 : decode cX3_push 64 = .ok (.getfield 9, 3) := by decide +kernel
theorem dX3_push_67 : decode cX3_push 67 = .ok (.iload 7, 2) := by decide +kernel
theorem dX3_push_69 : decode cX3_push 69 = .ok (.dup2, 1) := by decide +kernel
theorem dX3_push_70 : decode cX3_push 70 = .ok (.iaload, 1) := by decide +kernel
theorem dX3_push_71 : decode cX3_push 71 = .ok (.aload_n 1, 1) := by decide +kernel
theorem dX3_push_72 : decode cX3_push 72 = .ok (.getfield 64, 3) := by decide +kernel
theorem dX3_push_75 : decode cX3_push 75 = .ok (.iload 7, 2) := by decide +kernel
theorem dX3_push_77 : decode cX3_push 77 = .ok (.iaload, 1) := by decide +kernel
theorem dX3_push_78 : decode cX3_push 78 = .ok (.iload 5, 2) := by decide +kernel
theorem dX3_push_80 : decode cX3_push 80 = .ok (.if_icmp .ne 8, 3) := by decide +kernel
theorem dX3_push_83 : decode cX3_push 83 = .ok (.iload 4, 2) := by decide +kernel
theorem dX3_push_85 : decode cX3_push 85 = .ok (.goto 6, 3) := by decide +kernel
theorem dX3_push_88 : decode cX3_push 88 = .ok (.iload 4, 2) := by decide +kernel
theorem dX3_push_90 : decode cX3_push 90 = .ok (.ineg, 1) := by decide +kernel
theorem dX3_push_91 : decode cX3_push 91 = .ok (.iadd, 1) := by decide +kernel
theorem dX3_push_92 : decode cX3_push 92 = .ok (.iastore, 1) := by decide +kernel
theorem dX3_push_93 : decode cX3_push 93 = .ok (.aload_n 0, 1) := by decide +kernel
theorem dX3_push_94 : decode cX3_push 94 = .ok (.aload_n 1, 1) := by decide +kernel
theorem dX3_push_95 : decode cX3_push 95 = .ok (.iload 5, 2) := by decide +kernel
theorem dX3_push_97 : decode cX3_push 97 = .ok (.invokevirtual 99, 3) := by decide +kernel
theorem dX3_push_100 : decode cX3_push 100 = .ok (.istore 5, 2) := by decide +kernel
theorem dX3_push_102 : decode cX3_push 102 = .ok (.iinc 6 1, 3) := by decide +kernel
theorem dX3_push_105 : decode cX3_push 105 = .ok (.goto (-67), 3) := by decide +kernel
theorem dX3_push_108 : decode cX3_push 108 = .ok (.aload_n 0, 1) := by decide +kernel
theorem dX3_push_109 : decode cX3_push 109 = .ok (.iload_n 3, 1) := by decide +kernel
theorem dX3_push_110 : decode cX3_push 110 = .ok (.iload 4, 2) := by decide +kernel
theorem dX3_push_112 : decode cX3_push 112 = .ok (.ineg, 1) := by decide +kernel
theorem dX3_push_113 : decode cX3_push 113 = .ok (.invokevirtual 60, 3) := by decide +kernel
theorem dX3_push_116 : decode cX3_push 116 = .ok (.aload_n 0, 1) := by decide +kernel
theorem dX3_push_117 : decode cX3_push 117 = .ok (.iload_n 2, 1) := by decide +kernel
theorem dX3_push_118 : decode cX3_push 118 = .ok (.iload 4, 2) := by decide +kernel
theorem dX3_push_120 : decode cX3_push 120 = .ok (.invokevirtual 60, 3) := by decide +kernel
theorem dX3_push_123 : decode cX3_push 123 = .ok (.return_, 1) := by decide +kernel
theorem dX3_originOf_0 : decode cX3_originOf 0 = .ok (.iload_n 2, 1) := by decide +kernel
theorem dX3_originOf_1 : decode cX3_originOf 1 = .ok (.istore_n 3, 1) := by decide +kernel
theorem dX3_originOf_2 : decode cX3_originOf 2 = .ok (.iconst 0, 1) := by decide +kernel
theorem dX3_originOf_3 : decode cX3_originOf 3 = .ok (.istore 4, 2) := by decide +kernel
theorem dX3_originOf_5 : decode cX3_originOf 5 = .ok (.iload 4, 2) := by decide +kernel
theorem dX3_originOf_7 : decode cX3_originOf 7 = .ok (.bipush 7, 2) := by decide +kernel
theorem dX3_originOf_9 : decode cX3_originOf 9 = .ok (.if_icmp .ge 25, 3) := by decide +kernel
theorem dX3_originOf_12 : decode cX3_originOf 12 = .ok (.aload_n 0, 1) := by decide +kernel
theorem dX3_originOf_13 : decode cX3_originOf 13 = .ok (.iload_n 3, 1) := by decide +kernel
theorem dX3_originOf_14 : decode cX3_originOf 14 = .ok (.invokevirtual 95, 3) := by decide +kernel
theorem dX3_originOf_17 : decode cX3_originOf 17 = .ok (.iconst (-1), 1) := by decide +kernel
theorem dX3_originOf_18 : decode cX3_originOf 18 = .ok (.if_icmp .eq 16, 3) := by decide +kernel
theorem dX3_originOf_21 : decode cX3_originOf 21 = .ok (.aload_n 0, 1) := by decide +kernel
theorem dX3_originOf_22 : decode cX3_originOf 22 = .ok (.aload_n 1, 1) := by decide +kernel
theorem dX3_originOf_23 : decode cX3_originOf 23 = .ok (.iload_n 3, 1) := by decide +kernel
theorem dX3_originOf_24 : decode cX3_originOf 24 = .ok (.invokevirtual 99, 3) := by decide +kernel
theorem dX3_originOf_27 : decode cX3_originOf 27 = .ok (.istore_n 3, 1) := by decide +kernel
theorem dX3_originOf_28 : decode cX3_originOf 28 = .ok (.iinc 4 1, 3) := by decide +kernel
theorem dX3_originOf_31 : decode cX3_originOf 31 = .ok (.goto (-26), 3) := by decide +kernel
theorem dX3_originOf_34 : decode cX3_originOf 34 = .ok (.iload_n 3, 1) := by decide +kernel
theorem dX3_originOf_35 : decode cX3_originOf 35 = .ok (.ireturn, 1) := by decide +kernel
theorem dX3_widthTo_0 : decode cX3_widthTo 0 = .ok (.iload_n 2, 1) := by decide +kernel
theorem dX3_widthTo_1 : decode cX3_widthTo 1 = .ok (.invokestatic 67, 3) := by decide +kernel
theorem dX3_widthTo_4 : decode cX3_widthTo 4 = .ok (.ifCond .eq 13, 3) := by decide +kernel
theorem dX3_widthTo_7 : decode cX3_widthTo 7 = .ok (.aload_n 0, 1) := by decide +kernel
theorem dX3_widthTo_8 : decode cX3_widthTo 8 = .ok (.getfield 15, 3) := by decide +kernel
theorem dX3_widthTo_11 : decode cX3_widthTo 11 = .ok (.iload_n 2, 1) := by decide +kernel
theorem dX3_widthTo_12 : decode cX3_widthTo 12 = .ok (.iaload, 1) := by decide +kernel
theorem dX3_widthTo_13 : decode cX3_widthTo 13 = .ok (.ineg, 1) := by decide +kernel
theorem dX3_widthTo_14 : decode cX3_widthTo 14 = .ok (.goto 4, 3) := by decide +kernel
theorem dX3_widthTo_17 : decode cX3_widthTo 17 = .ok (.iconst 0, 1) := by decide +kernel
theorem dX3_widthTo_18 : decode cX3_widthTo 18 = .ok (.istore_n 3, 1) := by decide +kernel
theorem dX3_widthTo_19 : decode cX3_widthTo 19 = .ok (.iload_n 2, 1) := by decide +kernel
theorem dX3_widthTo_20 : decode cX3_widthTo 20 = .ok (.istore 4, 2) := by decide +kernel
theorem dX3_widthTo_22 : decode cX3_widthTo 22 = .ok (.iconst 0, 1) := by decide +kernel
theorem dX3_widthTo_23 : decode cX3_widthTo 23 = .ok (.istore 5, 2) := by decide +kernel
theorem dX3_widthTo_25 : decode cX3_widthTo 25 = .ok (.iload 5, 2) := by decide +kernel
theorem dX3_widthTo_27 : decode cX3_widthTo 27 = .ok (.bipush 7, 2) := by decide +kernel
theorem dX3_widthTo_29 : decode cX3_widthTo 29 = .ok (.if_icmp .ge 77, 3) := by decide +kernel
theorem dX3_widthTo_32 : decode cX3_widthTo 32 = .ok (.aload_n 0, 1) := by decide +kernel
theorem dX3_widthTo_33 : decode cX3_widthTo 33 = .ok (.iload 4, 2) := by decide +kernel
theorem dX3_widthTo_35 : decode cX3_widthTo 35 = .ok (.invokevirtual 95, 3) := by decide +kernel
theorem dX3_widthTo_38 : decode cX3_widthTo 38 = .ok (.iconst (-1), 1) := by decide +kernel
theorem dX3_widthTo_39 : decode cX3_widthTo 39 = .ok (.if_icmp .eq 67, 3) := by decide +kernel
theorem dX3_widthTo_42 : decode cX3_widthTo 42 = .ok (.aload_n 0, 1) := by decide +kernel
theorem dX3_widthTo_43 : decode cX3_widthTo 43 = .ok (.iload 4, 2) := by decide +kernel
theorem dX3_widthTo_45 : decode cX3_widthTo 45 = .ok (.invokevirtual 95, 3) := by decide +kernel
theorem dX3_widthTo_48 : decode cX3_widthTo 48 = .ok (.istore 6, 2) := by decide +kernel
theorem dX3_widthTo_50 : decode cX3_widthTo 50 = .ok (.aload_n 0, 1) := by decide +kernel
theorem dX3_widthTo_51 : decode cX3_widthTo 51 = .ok (.getfield 9, 3) := by decide +kernel
theorem dX3_widthTo_54 : decode cX3_widthTo 54 = .ok (.iload 6, 2) := by decide +kernel
theorem dX3_widthTo_56 : decode cX3_widthTo 56 = .ok (.iaload, 1) := by decide +kernel
theorem dX3_widthTo_57 : decode cX3_widthTo 57 = .ok (.istore 7, 2) := by decide +kernel
theorem dX3_widthTo_59 : decode cX3_widthTo 59 = .ok (.iload_n 3, 1) := by decide +kernel
theorem dX3_widthTo_60 : decode cX3_widthTo 60 = .ok (.aload_n 1, 1) := by decide +kernel
theorem dX3_widthTo_61 : decode cX3_widthTo 61 = .ok (.getfield 64, 3) := by decide +kernel
theorem dX3_widthTo_64 : decode cX3_widthTo 64 = .ok (.iload 6, 2) := by decide +kernel
theorem dX3_widthTo_66 : decode cX3_widthTo 66 = .ok (.iaload, 1) := by decide +kernel
theorem dX3_widthTo_67 : decode cX3_widthTo 67 = .ok (.iload 4, 2) := by decide +kernel
theorem dX3_widthTo_69 : decode cX3_widthTo 69 = .ok (.if_icmp .ne 16, 3) := by decide +kernel
theorem dX3_widthTo_72 : decode cX3_widthTo 72 = .ok (.aload_n 1, 1) := by decide +kernel
theorem dX3_widthTo_73 : decode cX3_widthTo 73 = .ok (.getfield 57, 3) := by decide +kernel
theorem dX3_widthTo_76 : decode cX3_widthTo 76 = .ok (.iload 6, 2) := by decide +kernel
theorem dX3_widthTo_78 : decode cX3_widthTo 78 = .ok (.iaload, 1) := by decide +kernel
theorem dX3_widthTo_79 : decode cX3_widthTo 79 = .ok (.iload 7, 2) := by decide +kernel
theorem dX3_widthTo_81 : decode cX3_widthTo 81 = .ok (.isub, 1) := by decide +kernel
theorem dX3_widthTo_82 : decode cX3_widthTo 82 = .ok (.goto 5, 3) := by decide +kernel
theorem dX3_widthTo_85 : decode cX3_widthTo 85 = .ok (.iload 7, 2) := by decide +kernel
theorem dX3_widthTo_87 : decode cX3_widthTo 87 = .ok (.invokestatic 89, 3) := by decide +kernel
theorem dX3_widthTo_90 : decode cX3_widthTo 90 = .ok (.istore_n 3, 1) := by decide +kernel
theorem dX3_widthTo_91 : decode cX3_widthTo 91 = .ok (.aload_n 0, 1) := by decide +kernel
theorem dX3_widthTo_92 : decode cX3_widthTo 92 = .ok (.aload_n 1, 1) := by decide +kernel
theorem dX3_widthTo_93 : decode cX3_widthTo 93 = .ok (.iload 4, 2) := by decide +kernel
theorem dX3_widthTo_95 : decode cX3_widthTo 95 = .ok (.invokevirtual 99, 3) := by decide +kernel
theorem dX3_widthTo_98 : decode cX3_widthTo 98 = .ok (.istore 4, 2) := by decide +kernel
theorem dX3_widthTo_100 : decode cX3_widthTo 100 = .ok (.iinc 5 1, 3) := by decide +kernel
theorem dX3_widthTo_103 : decode cX3_widthTo 103 = .ok (.goto (-78), 3) := by decide +kernel
theorem dX3_widthTo_106 : decode cX3_widthTo 106 = .ok (.iload_n 3, 1) := by decide +kernel
theorem dX3_widthTo_107 : decode cX3_widthTo 107 = .ok (.ireturn, 1) := by decide +kernel
theorem dX3_promiseTo_0 : decode cX3_promiseTo 0 = .ok (.iload_n 1, 1) := by decide +kernel
theorem dX3_promiseTo_1 : decode cX3_promiseTo 1 = .ok (.invokestatic 67, 3) := by decide +kernel
theorem dX3_promiseTo_4 : decode cX3_promiseTo 4 = .ok (.ifCond .eq 12, 3) := by decide +kernel
theorem dX3_promiseTo_7 : decode cX3_promiseTo 7 = .ok (.aload_n 0, 1) := by decide +kernel
theorem dX3_promiseTo_8 : decode cX3_promiseTo 8 = .ok (.getfield 21, 3) := by decide +kernel
theorem dX3_promiseTo_11 : decode cX3_promiseTo 11 = .ok (.iload_n 1, 1) := by decide +kernel
theorem dX3_promiseTo_12 : decode cX3_promiseTo 12 = .ok (.iaload, 1) := by decide +kernel
theorem dX3_promiseTo_13 : decode cX3_promiseTo 13 = .ok (.goto 4, 3) := by decide +kernel
theorem dX3_promiseTo_16 : decode cX3_promiseTo 16 = .ok (.iconst (-1), 1) := by decide +kernel
theorem dX3_promiseTo_17 : decode cX3_promiseTo 17 = .ok (.istore_n 2, 1) := by decide +kernel
theorem dX3_promiseTo_18 : decode cX3_promiseTo 18 = .ok (.iload_n 2, 1) := by decide +kernel
theorem dX3_promiseTo_19 : decode cX3_promiseTo 19 = .ok (.invokestatic 102, 3) := by decide +kernel
theorem dX3_promiseTo_22 : decode cX3_promiseTo 22 = .ok (.ifCond .eq 7, 3) := by decide +kernel
theorem dX3_promiseTo_25 : decode cX3_promiseTo 25 = .ok (.iload_n 2, 1) := by decide +kernel
theorem dX3_promiseTo_26 : decode cX3_promiseTo 26 = .ok (.goto 4, 3) := by decide +kernel
theorem dX3_promiseTo_29 : decode cX3_promiseTo 29 = .ok (.iconst (-1), 1) := by decide +kernel
theorem dX3_promiseTo_30 : decode cX3_promiseTo 30 = .ok (.ireturn, 1) := by decide +kernel
theorem dX3_before_0 : decode cX3_before 0 = .ok (.aload_n 0, 1) := by decide +kernel
theorem dX3_before_1 : decode cX3_before 1 = .ok (.iload_n 2, 1) := by decide +kernel
theorem dX3_before_2 : decode cX3_before 2 = .ok (.invokevirtual 95, 3) := by decide +kernel
theorem dX3_before_5 : decode cX3_before 5 = .ok (.istore_n 3, 1) := by decide +kernel
theorem dX3_before_6 : decode cX3_before 6 = .ok (.iload_n 3, 1) := by decide +kernel
theorem dX3_before_7 : decode cX3_before 7 = .ok (.iconst (-1), 1) := by decide +kernel
theorem dX3_before_8 : decode cX3_before 8 = .ok (.if_icmp .ne 5, 3) := by decide +kernel
theorem dX3_before_11 : decode cX3_before 11 = .ok (.iconst (-1), 1) := by decide +kernel
theorem dX3_before_12 : decode cX3_before 12 = .ok (.ireturn, 1) := by decide +kernel
theorem dX3_before_13 : decode cX3_before 13 = .ok (.aload_n 1, 1) := by decide +kernel
theorem dX3_before_14 : decode cX3_before 14 = .ok (.getfield 64, 3) := by decide +kernel
theorem dX3_before_17 : decode cX3_before 17 = .ok (.iload_n 3, 1) := by decide +kernel
theorem dX3_before_18 : decode cX3_before 18 = .ok (.iaload, 1) := by decide +kernel
theorem dX3_before_19 : decode cX3_before 19 = .ok (.iload_n 2, 1) := by decide +kernel
theorem dX3_before_20 : decode cX3_before 20 = .ok (.if_icmp .ne 12, 3) := by decide +kernel
theorem dX3_before_23 : decode cX3_before 23 = .ok (.aload_n 1, 1) := by decide +kernel
theorem dX3_before_24 : decode cX3_before 24 = .ok (.getfield 54, 3) := by decide +kernel
theorem dX3_before_27 : decode cX3_before 27 = .ok (.iload_n 3, 1) := by decide +kernel
theorem dX3_before_28 : decode cX3_before 28 = .ok (.iaload, 1) := by decide +kernel
theorem dX3_before_29 : decode cX3_before 29 = .ok (.goto 9, 3) := by decide +kernel
theorem dX3_before_32 : decode cX3_before 32 = .ok (.aload_n 1, 1) := by decide +kernel
theorem dX3_before_33 : decode cX3_before 33 = .ok (.getfield 64, 3) := by decide +kernel
theorem dX3_before_36 : decode cX3_before 36 = .ok (.iload_n 3, 1) := by decide +kernel
theorem dX3_before_37 : decode cX3_before 37 = .ok (.iaload, 1) := by decide +kernel
theorem dX3_before_38 : decode cX3_before 38 = .ok (.ireturn, 1) := by decide +kernel
theorem dX3_costThatStays_0 : decode cX3_costThatStays 0 = .ok (.iconst 0, 1) := by decide +kernel
theorem dX3_costThatStays_1 : decode cX3_costThatStays 1 = .ok (.istore_n 2, 1) := by decide +kernel
theorem dX3_costThatStays_2 : decode cX3_costThatStays 2 = .ok (.iconst 0, 1) := by decide +kernel
theorem dX3_costThatStays_3 : decode cX3_costThatStays 3 = .ok (.istore_n 3, 1) := by decide +kernel
theorem dX3_costThatStays_4 : decode cX3_costThatStays 4 = .ok (.iload_n 3, 1) := by decide +kernel
theorem dX3_costThatStays_5 : decode cX3_costThatStays 5 = .ok (.aload_n 1, 1) := by decide +kernel
theorem dX3_costThatStays_6 : decode cX3_costThatStays 6 = .ok (.getfield 44, 3) := by decide +kernel
theorem dX3_costThatStays_9 : decode cX3_costThatStays 9 = .ok (.if_icmp .ge 42, 3) := by decide +kernel
theorem dX3_costThatStays_12 : decode cX3_costThatStays 12 = .ok (.iload_n 2, 1) := by decide +kernel
theorem dX3_costThatStays_13 : decode cX3_costThatStays 13 = .ok (.aload_n 1, 1) := by decide +kernel
theorem dX3_costThatStays_14 : decode cX3_costThatStays 14 = .ok (.getfield 105, 3) := by decide +kernel
theorem dX3_costThatStays_17 : decode cX3_costThatStays 17 = .ok (.iload_n 3, 1) := by decide +kernel
theorem dX3_costThatStays_18 : decode cX3_costThatStays 18 = .ok (.baload, 1) := by decide +kernel
theorem dX3_costThatStays_19 : decode cX3_costThatStays 19 = .ok (.ifCond .eq 11, 3) := by decide +kernel
theorem dX3_costThatStays_22 : decode cX3_costThatStays 22 = .ok (.aload_n 1, 1) := by decide +kernel
theorem dX3_costThatStays_23 : decode cX3_costThatStays 23 = .ok (.iload_n 3, 1) := by decide +kernel
theorem dX3_costThatStays_24 : decode cX3_costThatStays 24 = .ok (.invokevirtual 109, 3) := by decide +kernel
theorem dX3_costThatStays_27 : decode cX3_costThatStays 27 = .ok (.goto 16, 3) := by decide +kernel
theorem dX3_costThatStays_30 : decode cX3_costThatStays 30 = .ok (.aload_n 0, 1) := by decide +kernel
theorem dX3_costThatStays_31 : decode cX3_costThatStays 31 = .ok (.getfield 9, 3) := by decide +kernel
theorem dX3_costThatStays_34 : decode cX3_costThatStays 34 = .ok (.iload_n 3, 1) := by decide +kernel
theorem dX3_costThatStays_35 : decode cX3_costThatStays 35 = .ok (.iaload, 1) := by decide +kernel
theorem dX3_costThatStays_36 : decode cX3_costThatStays 36 = .ok (.aload_n 1, 1) := by decide +kernel
theorem dX3_costThatStays_37 : decode cX3_costThatStays 37 = .ok (.getfield 75, 3) := by decide +kernel
theorem dX3_costThatStays_40 : decode cX3_costThatStays 40 = .ok (.iload_n 3, 1) := by decide +kernel
theorem dX3_costThatStays_41 : decode cX3_costThatStays 41 = .ok (.iaload, 1) := by decide +kernel
theorem dX3_costThatStays_42 : decode cX3_costThatStays 42 = .ok (.imul, 1) := by decide +kernel
theorem dX3_costThatStays_43 : decode cX3_costThatStays 43 = .ok (.iadd, 1) := by decide +kernel
theorem dX3_costThatStays_44 : decode cX3_costThatStays 44 = .ok (.istore_n 2, 1) := by decide +kernel
theorem dX3_costThatStays_45 : decode cX3_costThatStays 45 = .ok (.iinc 3 1, 3) := by decide +kernel
theorem dX3_costThatStays_48 : decode cX3_costThatStays 48 = .ok (.goto (-44), 3) := by decide +kernel
theorem dX3_costThatStays_51 : decode cX3_costThatStays 51 = .ok (.iload_n 2, 1) := by decide +kernel
theorem dX3_costThatStays_52 : decode cX3_costThatStays 52 = .ok (.ireturn, 1) := by decide +kernel
theorem dX4_init_0 : decode cX4_init 0 = .ok (.aload_n 0, 1) := by decide +kernel
theorem dX4_init_1 : decode cX4_init 1 = .ok (.invokespecial 5, 3) := by decide +kernel
theorem dX4_init_4 : decode cX4_init 4 = .ok (.aload_n 0, 1) := by decide +kernel
theorem dX4_init_5 : decode cX4_init 5 = .ok (.new 11, 3) := by decide +kernel
theorem dX4_init_8 : decode cX4_init 8 = .ok (.dup, 1) := by decide +kernel
theorem dX4_init_9 : decode cX4_init 9 = .ok (.invokespecial 13, 3) := by decide +kernel
theorem dX4_init_12 : decode cX4_init 12 = .ok (.putfield 14, 3) := by decide +kernel
theorem dX4_init_15 : decode cX4_init 15 = .ok (.aload_n 0, 1) := by decide +kernel
theorem dX4_init_16 : decode cX4_init 16 = .ok (.sipush 2365, 3) := by decide +kernel
theorem dX4_init_19 : decode cX4_init 19 = .ok (.newarray .int, 2) := by decide +kernel
theorem dX4_init_21 : decode cX4_init 21 = .ok (.putfield 18, 3) := by decide +kernel
theorem dX4_init_24 : decode cX4_init 24 = .ok (.aload_n 0, 1) := by decide +kernel
theorem dX4_init_25 : decode cX4_init 25 = .ok (.bipush 49, 2) := by decide +kernel
theorem dX4_init_27 : decode cX4_init 27 = .ok (.newarray .int, 2) := by decide +kernel
theorem dX4_init_29 : decode cX4_init 29 = .ok (.putfield 22, 3) := by decide +kernel
theorem dX4_init_32 : decode cX4_init 32 = .ok (.return_, 1) := by decide +kernel
theorem dX4_find_0 : decode cX4_find 0 = .ok (.aload_n 0, 1) := by decide +kernel
theorem dX4_find_1 : decode cX4_find 1 = .ok (.getfield 14, 3) := by decide +kernel
theorem dX4_find_4 : decode cX4_find 4 = .ok (.aload_n 1, 1) := by decide +kernel
theorem dX4_find_5 : decode cX4_find 5 = .ok (.invokevirtual 25, 3) := by decide +kernel
theorem dX4_find_8 : decode cX4_find 8 = .ok (.aload_n 0, 1) := by decide +kernel
theorem dX4_find_9 : decode cX4_find 9 = .ok (.iconst 0, 1) := by decide +kernel
theorem dX4_find_10 : decode cX4_find 10 = .ok (.putfield 29, 3) := by decide +kernel
theorem dX4_find_13 : decode cX4_find 13 = .ok (.iconst 0, 1) := by decide +kernel
theorem dX4_find_14 : decode cX4_find 14 = .ok (.istore_n 2, 1) := by decide +kernel
theorem dX4_find_15 : decode cX4_find 15 = .ok (.iload_n 2, 1) := by decide +kernel
theorem dX4_find_16 : decode cX4_find 16 = .ok (.bipush 7, 2) := by decide +kernel
theorem dX4_find_18 : decode cX4_find 18 = .ok (.if_icmp .ge 25, 3) := by decide +kernel
theorem dX4_find_21 : decode cX4_find 21 = .ok (.aload_n 0, 1) := by decide +kernel
theorem dX4_find_22 : decode cX4_find 22 = .ok (.ldc 33, 2) := by decide +kernel
theorem dX4_find_24 : decode cX4_find 24 = .ok (.iconst 0, 1) := by decide +kernel
theorem dX4_find_25 : decode cX4_find 25 = .ok (.iload_n 2, 1) := by decide +kernel
theorem dX4_find_26 : decode cX4_find 26 = .ok (.invokestatic 34, 3) := by decide +kernel
theorem dX4_find_29 : decode cX4_find 29 = .ok (.iconst 1, 1) := by decide +kernel
theorem dX4_find_30 : decode cX4_find 30 = .ok (.iload_n 2, 1) := by decide +kernel
theorem dX4_find_31 : decode cX4_find 31 = .ok (.ishl, 1) := by decide +kernel
theorem dX4_find_32 : decode cX4_find 32 = .ok (.iload_n 2, 1) := by decide +kernel
theorem dX4_find_33 : decode cX4_find 33 = .ok (.iconst 1, 1) := by decide +kernel
theorem dX4_find_34 : decode cX4_find 34 = .ok (.invokestatic 38, 3) := by decide +kernel
theorem dX4_find_37 : decode cX4_find 37 = .ok (.iinc 2 1, 3) := by decide +kernel
theorem dX4_find_40 : decode cX4_find 40 = .ok (.goto (-25), 3) := by decide +kernel
theorem dX4_find_43 : decode cX4_find 43 = .ok (.return_, 1) := by decide +kernel
theorem dX4_extend_0 : decode cX4_extend 0 = .ok (.iload_n 1, 1) := by decide +kernel
theorem dX4_extend_1 : decode cX4_extend 1 = .ok (.iconst 0, 1) := by decide +kernel
theorem dX4_extend_2 : decode cX4_extend 2 = .ok (.invokestatic 42, 3) := by decide +kernel
theorem dX4_extend_5 : decode cX4_extend 5 = .ok (.istore 5, 2) := by decide +kernel
theorem dX4_extend_7 : decode cX4_extend 7 = .ok (.aload_n 0, 1) := by decide +kernel
theorem dX4_extend_8 : decode cX4_extend 8 = .ok (.getfield 14, 3) := by decide +kernel
theorem dX4_extend_11 : decode cX4_extend 11 = .ok (.iload_n 3, 1) := by decide +kernel
theorem dX4_extend_12 : decode cX4_extend 12 = .ok (.bipush 7, 2) := by decide +kernel
theorem dX4_extend_14 : decode cX4_extend 14 = .ok (.imul, 1) := by decide +kernel
theorem dX4_extend_15 : decode cX4_extend 15 = .ok (.iload 5, 2) := by decide +kernel
theorem dX4_extend_17 : decode cX4_extend 17 = .ok (.iadd, 1) := by decide +kernel
theorem dX4_extend_18 : decode cX4_extend 18 = .ok (.invokevirtual 46, 3) := by decide +kernel
theorem dX4_extend_21 : decode cX4_extend 21 = .ok (.ifCond .le 8, 3) := by decide +kernel
theorem dX4_extend_24 : decode cX4_extend 24 = .ok (.aload_n 0, 1) := by decide +kernel
theorem dX4_extend_25 : decode cX4_extend 25 = .ok (.iload_n 1, 1) := by decide +kernel
theorem dX4_extend_26 : decode cX4_extend 26 = .ok (.invokevirtual 50, 3) := by decide +kernel
theorem dX4_extend_29 : decode cX4_extend 29 = .ok (.iload 4, 2) := by decide +kernel
theorem dX4_extend_31 : decode cX4_extend 31 = .ok (.bipush 7, 2) := by decide +kernel
theorem dX4_extend_33 : decode cX4_extend 33 = .ok (.if_icmp .lt 4, 3) := by decide +kernel
theorem dX4_extend_36 : decode cX4_extend 36 = .ok (.return_, 1) := by decide +kernel
theorem dX4_extend_37 : decode cX4_extend 37 = .ok (.iload 5, 2) := by decide +kernel
theorem dX4_extend_39 : decode cX4_extend 39 = .ok (.iconst 1, 1) := by decide +kernel
theorem dX4_extend_40 : decode cX4_extend 40 = .ok (.iadd, 1) := by decide +kernel
theorem dX4_extend_41 : decode cX4_extend 41 = .ok (.istore 6, 2) := by decide +kernel
theorem dX4_extend_43 : decode cX4_extend 43 = .ok (.iload 6, 2) := by decide +kernel
theorem dX4_extend_45 : decode cX4_extend 45 = .ok (.bipush 7, 2) := by decide +kernel
theorem dX4_extend_47 : decode cX4_extend 47 = .ok (.if_icmp .ge 59, 3) := by decide +kernel
theorem dX4_extend_50 : decode cX4_extend 50 = .ok (.iload_n 2, 1) := by decide +kernel
theorem dX4_extend_51 : decode cX4_extend 51 = .ok (.iload 6, 2) := by decide +kernel
theorem dX4_extend_53 : decode cX4_extend 53 = .ok (.ishr, 1) := by decide +kernel
theorem dX4_extend_54 : decode cX4_extend 54 = .ok (.iconst 1, 1) := by decide +kernel
theorem dX4_extend_55 : decode cX4_extend 55 = .ok (.iand, 1) := by decide +kernel
theorem dX4_extend_56 : decode cX4_extend 56 = .ok (.ifCond .ne 44, 3) := by decide +kernel
theorem dX4_extend_59 : decode cX4_extend 59 = .ok (.aload_n 0, 1) := by decide +kernel
theorem dX4_extend_60 : decode cX4_extend 60 = .ok (.getfield 14, 3) := by decide +kernel
theorem dX4_extend_63 : decode cX4_extend 63 = .ok (.iload_n 3, 1) := by decide +kernel
theorem dX4_extend_64 : decode cX4_extend 64 = .ok (.bipush 7, 2) := by decide +kernel
theorem dX4_extend_66 : decode cX4_extend 66 = .ok (.imul, 1) := by decide +kernel
theorem dX4_extend_67 : decode cX4_extend 67 = .ok (.iload 6, 2) := by decide +kernel
theorem dX4_extend_69 : decode cX4_extend 69 = .ok (.iadd, 1) := by decide +kernel
theorem dX4_extend_70 : decode cX4_extend 70 = .ok (.invokevirtual 46, 3) := by decide +kernel
theorem dX4_extend_73 : decode cX4_extend 73 = .ok (.ifCond .le 27, 3) := by decide +kernel
theorem dX4_extend_76 : decode cX4_extend 76 = .ok (.aload_n 0, 1) := by decide +kernel
theorem dX4_extend_77 : decode cX4_extend 77 = .ok (.iload_n 1, 1) := by decide +kernel
theorem dX4_extend_78 : decode cX4_extend 78 = .ok (.iload 4, 2) := by decide +kernel
theorem dX4_extend_80 : decode cX4_extend 80 = .ok (.iload 6, 2) := by decide +kernel
theorem dX4_extend_82 : decode cX4_extend 82 = .ok (.invokestatic 34, 3) := by decide +kernel
theorem dX4_extend_85 : decode cX4_extend 85 = .ok (.iload_n 2, 1) := by decide +kernel
theorem dX4_extend_86 : decode cX4_extend 86 = .ok (.iconst 1, 1) := by decide +kernel
theorem dX4_extend_87 : decode cX4_extend 87 = .ok (.iload 6, 2) := by decide +kernel
theorem dX4_extend_89 : decode cX4_extend 89 = .ok (.ishl, 1) := by decide +kernel
theorem dX4_extend_90 : decode cX4_extend 90 = .ok (.ior, 1) := by decide +kernel
theorem dX4_extend_91 : decode cX4_extend 91 = .ok (.iload 6, 2) := by decide +kernel
theorem dX4_extend_93 : decode cX4_extend 93 = .ok (.iload 4, 2) := by decide +kernel
theorem dX4_extend_95 : decode cX4_extend 95 = .ok (.iconst 1, 1) := by decide +kernel
theorem dX4_extend_96 : decode cX4_extend 96 = .ok (.iadd, 1) := by decide +kernel
theorem dX4_extend_97 : decode cX4_extend 97 = .ok (.invokestatic 38, 3) := by decide +kernel
theorem dX4_extend_100 : decode cX4_extend 100 = .ok (.iinc 6 1, 3) := by decide +kernel
theorem dX4_extend_103 : decode cX4_extend 103 = .ok (.goto (-60), 3) := by decide +kernel
theorem dX4_extend_106 : decode cX4_extend 106 = .ok (.return_, 1) := by decide +kernel
theorem dX4_addRow_0 : decode cX4_addRow 0 = .ok (.aload_n 0, 1) := by decide +kernel
theorem dX4_addRow_1 : decode cX4_addRow 1 = .ok (.getfield 29, 3) := by decide +kernel
theorem dX4_addRow_4 : decode cX4_addRow 4 = .ok (.ifCond .lt 33, 3) := by decide +kernel
theorem dX4_addRow_7 : decode cX4_addRow 7 = .ok (.aload_n 0, 1) := by decide +kernel
theorem dX4_addRow_8 : decode cX4_addRow 8 = .ok (.getfield 29, 3) := by decide +kernel
theorem dX4_addRow_11 : decode cX4_addRow 11 = .ok (.sipush 2365, 3) := by decide +kernel
theorem dX4_addRow_14 : decode cX4_addRow 14 = .ok (.if_icmp .ge 23, 3) := by decide +kernel
theorem dX4_addRow_17 : decode cX4_addRow 17 = .ok (.aload_n 0, 1) := by decide +kernel
theorem dX4_addRow_18 : decode cX4_addRow 18 = .ok (.getfield 18, 3) := by decide +kernel
theorem dX4_addRow_21 : decode cX4_addRow 21 = .ok (.aload_n 0, 1) := by decide +kernel
theorem dX4_addRow_22 : decode cX4_addRow 22 = .ok (.getfield 29, 3) := by decide +kernel
theorem dX4_addRow_25 : decode cX4_addRow 25 = .ok (.iload_n 1, 1) := by decide +kernel
theorem dX4_addRow_26 : decode cX4_addRow 26 = .ok (.iastore, 1) := by decide +kernel
theorem dX4_addRow_27 : decode cX4_addRow 27 = .ok (.aload_n 0, 1) := by decide +kernel
theorem dX4_addRow_28 : decode cX4_addRow 28 = .ok (.dup, 1) := by decide +kernel
theorem dX4_addRow_29 : decode cX4_addRow 29 = .ok (.getfield 29, 3) := by decide +kernel
theorem dX4_addRow_32 : decode cX4_addRow 32 = .ok (.iconst 1, 1) := by decide +kernel
theorem dX4_addRow_33 : decode cX4_addRow 33 = .ok (.iadd, 1) := by decide +kernel
theorem dX4_addRow_34 : decode cX4_addRow 34 = .ok (.putfield 29, 3) := by decide +kernel
theorem dX4_addRow_37 : decode cX4_addRow 37 = .ok (.return_, 1) := by decide +kernel
theorem dX4_rowWith_0 : decode cX4_rowWith 0 = .ok (.iconst 3, 1) := by decide +kernel
theorem dX4_rowWith_1 : decode cX4_rowWith 1 = .ok (.iload_n 1, 1) := by decide +kernel
theorem dX4_rowWith_2 : decode cX4_rowWith 2 = .ok (.imul, 1) := by decide +kernel
theorem dX4_rowWith_3 : decode cX4_rowWith 3 = .ok (.istore_n 3, 1) := by decide +kernel
theorem dX4_rowWith_4 : decode cX4_rowWith 4 = .ok (.iload_n 0, 1) := by decide +kernel
theorem dX4_rowWith_5 : decode cX4_rowWith 5 = .ok (.bipush 7, 2) := by decide +kernel
theorem dX4_rowWith_7 : decode cX4_rowWith 7 = .ok (.iload_n 3, 1) := by decide +kernel
theorem dX4_rowWith_8 : decode cX4_rowWith 8 = .ok (.ishl, 1) := by decide +kernel
theorem dX4_rowWith_9 : decode cX4_rowWith 9 = .ok (.iconst (-1), 1) := by decide +kernel
theorem dX4_rowWith_10 : decode cX4_rowWith 10 = .ok (.ixor, 1) := by decide +kernel
theorem dX4_rowWith_11 : decode cX4_rowWith 11 = .ok (.iand, 1) := by decide +kernel
theorem dX4_rowWith_12 : decode cX4_rowWith 12 = .ok (.iload_n 2, 1) := by decide +kernel
theorem dX4_rowWith_13 : decode cX4_rowWith 13 = .ok (.iload_n 3, 1) := by decide +kernel
theorem dX4_rowWith_14 : decode cX4_rowWith 14 = .ok (.ishl, 1) := by decide +kernel
theorem dX4_rowWith_15 : decode cX4_rowWith 15 = .ok (.ior, 1) := by decide +kernel
theorem dX4_rowWith_16 : decode cX4_rowWith 16 = .ok (.ireturn, 1) := by decide +kernel
theorem dX4_partyIn_0 : decode cX4_partyIn 0 = .ok (.iload_n 1, 1) := by decide +kernel
theorem dX4_partyIn_1 : decode cX4_partyIn 1 = .ok (.bipush 7, 2) := by decide +kernel
theorem dX4_partyIn_3 : decode cX4_partyIn 3 = .ok (.if_icmp .ge 14, 3) := by decide +kernel
theorem dX4_partyIn_6 : decode cX4_partyIn 6 = .ok (.iload_n 0, 1) := by decide +kernel
theorem dX4_partyIn_7 : decode cX4_partyIn 7 = .ok (.iconst 3, 1) := by decide +kernel
theorem dX4_partyIn_8 : decode cX4_partyIn 8 = .ok (.iload_n 1, 1) := by decide +kernel
theorem dX4_partyIn_9 : decode cX4_partyIn 9 = .ok (.imul, 1) := by decide +kernel
theorem dX4_partyIn_10 : decode cX4_partyIn 10 = .ok (.ishr, 1) := by decide +kernel
theorem dX4_partyIn_11 : decode cX4_partyIn 11 = .ok (.bipush 7, 2) := by decide +kernel
theorem dX4_partyIn_13 : decode cX4_partyIn 13 = .ok (.iand, 1) := by decide +kernel
theorem dX4_partyIn_14 : decode cX4_partyIn 14 = .ok (.goto 5, 3) := by decide +kernel
theorem dX4_partyIn_17 : decode cX4_partyIn 17 = .ok (.bipush 7, 2) := by decide +kernel
theorem dX4_partyIn_19 : decode cX4_partyIn 19 = .ok (.istore_n 2, 1) := by decide +kernel
theorem dX4_partyIn_20 : decode cX4_partyIn 20 = .ok (.iload_n 2, 1) := by decide +kernel
theorem dX4_partyIn_21 : decode cX4_partyIn 21 = .ok (.bipush 7, 2) := by decide +kernel
theorem dX4_partyIn_23 : decode cX4_partyIn 23 = .ok (.if_icmp .ne 7, 3) := by decide +kernel
theorem dX4_partyIn_26 : decode cX4_partyIn 26 = .ok (.iconst (-1), 1) := by decide +kernel
theorem dX4_partyIn_27 : decode cX4_partyIn 27 = .ok (.goto 4, 3) := by decide +kernel
theorem dX4_partyIn_30 : decode cX4_partyIn 30 = .ok (.iload_n 2, 1) := by decide +kernel
theorem dX4_partyIn_31 : decode cX4_partyIn 31 = .ok (.ireturn, 1) := by decide +kernel
theorem dX4_pairIn_0 : decode cX4_pairIn 0 = .ok (.iload_n 0, 1) := by decide +kernel
theorem dX4_pairIn_1 : decode cX4_pairIn 1 = .ok (.iload_n 1, 1) := by decide +kernel
theorem dX4_pairIn_2 : decode cX4_pairIn 2 = .ok (.invokestatic 42, 3) := by decide +kernel
theorem dX4_pairIn_5 : decode cX4_pairIn 5 = .ok (.istore_n 2, 1) := by decide +kernel
theorem dX4_pairIn_6 : decode cX4_pairIn 6 = .ok (.iload_n 2, 1) := by decide +kernel
theorem dX4_pairIn_7 : decode cX4_pairIn 7 = .ok (.iconst (-1), 1) := by decide +kernel
theorem dX4_pairIn_8 : decode cX4_pairIn 8 = .ok (.if_icmp .ne 5, 3) := by decide +kernel
theorem dX4_pairIn_11 : decode cX4_pairIn 11 = .ok (.iconst (-1), 1) := by decide +kernel
theorem dX4_pairIn_12 : decode cX4_pairIn 12 = .ok (.ireturn, 1) := by decide +kernel
theorem dX4_pairIn_13 : decode cX4_pairIn 13 = .ok (.iload_n 0, 1) := by decide +kernel
theorem dX4_pairIn_14 : decode cX4_pairIn 14 = .ok (.iload_n 1, 1) := by decide +kernel
theorem dX4_pairIn_15 : decode cX4_pairIn 15 = .ok (.iconst 1, 1) := by decide +kernel
theorem dX4_pairIn_16 : decode cX4_pairIn 16 = .ok (.iadd, 1) := by decide +kernel
theorem dX4_pairIn_17 : decode cX4_pairIn 17 = .ok (.invokestatic 42, 3) := by decide +kernel
theorem dX4_pairIn_20 : decode cX4_pairIn 20 = .ok (.istore_n 3, 1) := by decide +kernel
theorem dX4_pairIn_21 : decode cX4_pairIn 21 = .ok (.iload_n 2, 1) := by decide +kernel
theorem dX4_pairIn_22 : decode cX4_pairIn 22 = .ok (.bipush 7, 2) := by decide +kernel
theorem dX4_pairIn_24 : decode cX4_pairIn 24 = .ok (.imul, 1) := by decide +kernel
theorem dX4_pairIn_25 : decode cX4_pairIn 25 = .ok (.iload_n 3, 1) := by decide +kernel
theorem dX4_pairIn_26 : decode cX4_pairIn 26 = .ok (.iconst (-1), 1) := by decide +kernel
theorem dX4_pairIn_27 : decode cX4_pairIn 27 = .ok (.if_icmp .ne 11, 3) := by decide +kernel
theorem dX4_pairIn_30 : decode cX4_pairIn 30 = .ok (.iload_n 0, 1) := by decide +kernel
theorem dX4_pairIn_31 : decode cX4_pairIn 31 = .ok (.iconst 0, 1) := by decide +kernel
theorem dX4_pairIn_32 : decode cX4_pairIn 32 = .ok (.invokestatic 42, 3) := by decide +kernel
theorem dX4_pairIn_35 : decode cX4_pairIn 35 = .ok (.goto 4, 3) := by decide +kernel
theorem dX4_pairIn_38 : decode cX4_pairIn 38 = .ok (.iload_n 3, 1) := by decide +kernel
theorem dX4_pairIn_39 : decode cX4_pairIn 39 = .ok (.iadd, 1) := by decide +kernel
theorem dX4_pairIn_40 : decode cX4_pairIn 40 = .ok (.ireturn, 1) := by decide +kernel
theorem dX4_rowAt_0 : decode cX4_rowAt 0 = .ok (.iload_n 1, 1) := by decide +kernel
theorem dX4_rowAt_1 : decode cX4_rowAt 1 = .ok (.ifCond .lt 27, 3) := by decide +kernel
theorem dX4_rowAt_4 : decode cX4_rowAt 4 = .ok (.iload_n 1, 1) := by decide +kernel
theorem dX4_rowAt_5 : decode cX4_rowAt 5 = .ok (.aload_n 0, 1) := by decide +kernel
theorem dX4_rowAt_6 : decode cX4_rowAt 6 = .ok (.getfield 29, 3) := by decide +kernel
theorem dX4_rowAt_9 : decode cX4_rowAt 9 = .ok (.if_icmp .ge 19, 3) := by decide +kernel
theorem dX4_rowAt_12 : decode cX4_rowAt 12 = .ok (.iload_n 1, 1) := by decide +kernel
theorem dX4_rowAt_13 : decode cX4_rowAt 13 = .ok (.sipush 2365, 3) := by decide +kernel
theorem dX4_rowAt_16 : decode cX4_rowAt 16 = .ok (.if_icmp .ge 12, 3) := by decide +kernel
theorem dX4_rowAt_19 : decode cX4_rowAt 19 = .ok (.aload_n 0, 1) := by decide +kernel
theorem dX4_rowAt_20 : decode cX4_rowAt 20 = .ok (.getfield 18, 3) := by decide +kernel
theorem dX4_rowAt_23 : decode cX4_rowAt 23 = .ok (.iload_n 1, 1) := by decide +kernel
theorem dX4_rowAt_24 : decode cX4_rowAt 24 = .ok (.iaload, 1) := by decide +kernel
theorem dX4_rowAt_25 : decode cX4_rowAt 25 = .ok (.goto 5, 3) := by decide +kernel
theorem dX4_rowAt_28 : decode cX4_rowAt 28 = .ok (.ldc 33, 2) := by decide +kernel
theorem dX4_rowAt_30 : decode cX4_rowAt 30 = .ok (.ireturn, 1) := by decide +kernel
theorem dX4_partyAt_0 : decode cX4_partyAt 0 = .ok (.aload_n 0, 1) := by decide +kernel
theorem dX4_partyAt_1 : decode cX4_partyAt 1 = .ok (.iload_n 1, 1) := by decide +kernel
theorem dX4_partyAt_2 : decode cX4_partyAt 2 = .ok (.invokevirtual 54, 3) := by decide +kernel
theorem dX4_partyAt_5 : decode cX4_partyAt 5 = .ok (.iload_n 2, 1) := by decide +kernel
theorem dX4_partyAt_6 : decode cX4_partyAt 6 = .ok (.invokestatic 42, 3) := by decide +kernel
theorem dX4_partyAt_9 : decode cX4_partyAt 9 = .ok (.ireturn, 1) := by decide +kernel
theorem dX4_roomAt_0 : decode cX4_roomAt 0 = .ok (.aload_n 0, 1) := by decide +kernel
theorem dX4_roomAt_1 : decode cX4_roomAt 1 = .ok (.iload_n 1, 1) := by decide +kernel
theorem dX4_roomAt_2 : decode cX4_roomAt 2 = .ok (.invokevirtual 54, 3) := by decide +kernel
theorem dX4_roomAt_5 : decode cX4_roomAt 5 = .ok (.istore_n 2, 1) := by decide +kernel
theorem dX4_roomAt_6 : decode cX4_roomAt 6 = .ok (.aload_n 0, 1) := by decide +kernel
theorem dX4_roomAt_7 : decode cX4_roomAt 7 = .ok (.getfield 14, 3) := by decide +kernel
theorem dX4_roomAt_10 : decode cX4_roomAt 10 = .ok (.iload_n 2, 1) := by decide +kernel
theorem dX4_roomAt_11 : decode cX4_roomAt 11 = .ok (.iconst 0, 1) := by decide +kernel
theorem dX4_roomAt_12 : decode cX4_roomAt 12 = .ok (.invokestatic 57, 3) := by decide +kernel
theorem dX4_roomAt_15 : decode cX4_roomAt 15 = .ok (.invokevirtual 46, 3) := by decide +kernel
theorem dX4_roomAt_18 : decode cX4_roomAt 18 = .ok (.istore_n 3, 1) := by decide +kernel
theorem dX4_roomAt_19 : decode cX4_roomAt 19 = .ok (.iconst 1, 1) := by decide +kernel
theorem dX4_roomAt_20 : decode cX4_roomAt 20 = .ok (.istore 4, 2) := by decide +kernel
theorem dX4_roomAt_22 : decode cX4_roomAt 22 = .ok (.iload 4, 2) := by decide +kernel
theorem dX4_roomAt_24 : decode cX4_roomAt 24 = .ok (.bipush 7, 2) := by decide +kernel
theorem dX4_roomAt_26 : decode cX4_roomAt 26 = .ok (.if_icmp .ge 37, 3) := by decide +kernel
theorem dX4_roomAt_29 : decode cX4_roomAt 29 = .ok (.iload_n 2, 1) := by decide +kernel
theorem dX4_roomAt_30 : decode cX4_roomAt 30 = .ok (.iload 4, 2) := by decide +kernel
theorem dX4_roomAt_32 : decode cX4_roomAt 32 = .ok (.invokestatic 57, 3) := by decide +kernel
theorem dX4_roomAt_35 : decode cX4_roomAt 35 = .ok (.istore 5, 2) := by decide +kernel
theorem dX4_roomAt_37 : decode cX4_roomAt 37 = .ok (.iload 5, 2) := by decide +kernel
theorem dX4_roomAt_39 : decode cX4_roomAt 39 = .ok (.iconst (-1), 1) := by decide +kernel
theorem dX4_roomAt_40 : decode cX4_roomAt 40 = .ok (.if_icmp .eq 17, 3) := by decide +kernel
theorem dX4_roomAt_43 : decode cX4_roomAt 43 = .ok (.iload_n 3, 1) := by decide +kernel
theorem dX4_roomAt_44 : decode cX4_roomAt 44 = .ok (.aload_n 0, 1) := by decide +kernel
theorem dX4_roomAt_45 : decode cX4_roomAt 45 = .ok (.getfield 14, 3) := by decide +kernel
theorem dX4_roomAt_48 : decode cX4_roomAt 48 = .ok (.iload 5, 2) := by decide +kernel
theorem dX4_roomAt_50 : decode cX4_roomAt 50 = .ok (.invokevirtual 46, 3) := by decide +kernel
theorem dX4_roomAt_53 : decode cX4_roomAt 53 = .ok (.invokestatic 60, 3) := by decide +kernel
theorem dX4_roomAt_56 : decode cX4_roomAt 56 = .ok (.istore_n 3, 1) := by decide +kernel
theorem dX4_roomAt_57 : decode cX4_roomAt 57 = .ok (.iinc 4 1, 3) := by decide +kernel
theorem dX4_roomAt_60 : decode cX4_roomAt 60 = .ok (.goto (-38), 3) := by decide +kernel
theorem dX4_roomAt_63 : decode cX4_roomAt 63 = .ok (.iload_n 3, 1) := by decide +kernel
theorem dX4_roomAt_64 : decode cX4_roomAt 64 = .ok (.ireturn, 1) := by decide +kernel
theorem dX4_savingAt_0 : decode cX4_savingAt 0 = .ok (.aload_n 0, 1) := by decide +kernel
theorem dX4_savingAt_1 : decode cX4_savingAt 1 = .ok (.iload_n 2, 1) := by decide +kernel
theorem dX4_savingAt_2 : decode cX4_savingAt 2 = .ok (.invokevirtual 54, 3) := by decide +kernel
theorem dX4_savingAt_5 : decode cX4_savingAt 5 = .ok (.istore 4, 2) := by decide +kernel
theorem dX4_savingAt_7 : decode cX4_savingAt 7 = .ok (.iconst 0, 1) := by decide +kernel
theorem dX4_savingAt_8 : decode cX4_savingAt 8 = .ok (.istore 5, 2) := by decide +kernel
theorem dX4_savingAt_10 : decode cX4_savingAt 10 = .ok (.iconst 0, 1) := by decide +kernel
theorem dX4_savingAt_11 : decode cX4_savingAt 11 = .ok (.istore 6, 2) := by decide +kernel
theorem dX4_savingAt_13 : decode cX4_savingAt 13 = .ok (.iload 6, 2) := by decide +kernel
theorem dX4_savingAt_15 : decode cX4_savingAt 15 = .ok (.bipush 7, 2) := by decide +kernel
theorem dX4_savingAt_17 : decode cX4_savingAt 17 = .ok (.if_icmp .ge 30, 3) := by decide +kernel
theorem dX4_savingAt_20 : decode cX4_savingAt 20 = .ok (.iload 5, 2) := by decide +kernel
theorem dX4_savingAt_22 : decode cX4_savingAt 22 = .ok (.aload_n 0, 1) := by decide +kernel
theorem dX4_savingAt_23 : decode cX4_savingAt 23 = .ok (.getfield 14, 3) := by decide +kernel
theorem dX4_savingAt_26 : decode cX4_savingAt 26 = .ok (.aload_n 1, 1) := by decide +kernel
theorem dX4_savingAt_27 : decode cX4_savingAt 27 = .ok (.iload 4, 2) := by decide +kernel
theorem dX4_savingAt_29 : decode cX4_savingAt 29 = .ok (.iload 6, 2) := by decide +kernel
theorem dX4_savingAt_31 : decode cX4_savingAt 31 = .ok (.invokestatic 57, 3) := by decide +kernel
theorem dX4_savingAt_34 : decode cX4_savingAt 34 = .ok (.iload_n 3, 1) := by decide +kernel
theorem dX4_savingAt_35 : decode cX4_savingAt 35 = .ok (.invokevirtual 65, 3) := by decide +kernel
theorem dX4_savingAt_38 : decode cX4_savingAt 38 = .ok (.iadd, 1) := by decide +kernel
theorem dX4_savingAt_39 : decode cX4_savingAt 39 = .ok (.istore 5, 2) := by decide +kernel
theorem dX4_savingAt_41 : decode cX4_savingAt 41 = .ok (.iinc 6 1, 3) := by decide +kernel
theorem dX4_savingAt_44 : decode cX4_savingAt 44 = .ok (.goto (-31), 3) := by decide +kernel
theorem dX4_savingAt_47 : decode cX4_savingAt 47 = .ok (.iload 5, 2) := by decide +kernel
theorem dX4_savingAt_49 : decode cX4_savingAt 49 = .ok (.ireturn, 1) := by decide +kernel
theorem dX4_best_0 : decode cX4_best 0 = .ok (.iconst (-1), 1) := by decide +kernel
theorem dX4_best_1 : decode cX4_best 1 = .ok (.istore_n 2, 1) := by decide +kernel
theorem dX4_best_2 : decode cX4_best 2 = .ok (.iconst 0, 1) := by decide +kernel
theorem dX4_best_3 : decode cX4_best 3 = .ok (.istore_n 3, 1) := by decide +kernel
theorem dX4_best_4 : decode cX4_best 4 = .ok (.iconst 0, 1) := by decide +kernel
theorem dX4_best_5 : decode cX4_best 5 = .ok (.istore 4, 2) := by decide +kernel
theorem dX4_best_7 : decode cX4_best 7 = .ok (.iload 4, 2) := by decide +kernel
theorem dX4_best_9 : decode cX4_best 9 = .ok (.aload_n 0, 1) := by decide +kernel
theorem dX4_best_10 : decode cX4_best 10 = .ok (.getfield 29, 3) := by decide +kernel
theorem dX4_best_13 : decode cX4_best 13 = .ok (.if_icmp .ge 36, 3) := by decide +kernel
theorem dX4_best_16 : decode cX4_best 16 = .ok (.aload_n 0, 1) := by decide +kernel
theorem dX4_best_17 : decode cX4_best 17 = .ok (.aload_n 1, 1) := by decide +kernel
theorem dX4_best_18 : decode cX4_best 18 = .ok (.iload 4, 2) := by decide +kernel
theorem dX4_best_20 : decode cX4_best 20 = .ok (.aload_n 0, 1) := by decide +kernel
theorem dX4_best_21 : decode cX4_best 21 = .ok (.iload 4, 2) := by decide +kernel
theorem dX4_best_23 : decode cX4_best 23 = .ok (.invokevirtual 69, 3) := by decide +kernel
theorem dX4_best_26 : decode cX4_best 26 = .ok (.invokevirtual 72, 3) := by decide +kernel
theorem dX4_best_29 : decode cX4_best 29 = .ok (.istore 5, 2) := by decide +kernel
theorem dX4_best_31 : decode cX4_best 31 = .ok (.iload 5, 2) := by decide +kernel
theorem dX4_best_33 : decode cX4_best 33 = .ok (.iload_n 3, 1) := by decide +kernel
theorem dX4_best_34 : decode cX4_best 34 = .ok (.if_icmp .le 9, 3) := by decide +kernel
theorem dX4_best_37 : decode cX4_best 37 = .ok (.iload 4, 2) := by decide +kernel
theorem dX4_best_39 : decode cX4_best 39 = .ok (.istore_n 2, 1) := by decide +kernel
theorem dX4_best_40 : decode cX4_best 40 = .ok (.iload 5, 2) := by decide +kernel
theorem dX4_best_42 : decode cX4_best 42 = .ok (.istore_n 3, 1) := by decide +kernel
theorem dX4_best_43 : decode cX4_best 43 = .ok (.iinc 4 1, 3) := by decide +kernel
theorem dX4_best_46 : decode cX4_best 46 = .ok (.goto (-39), 3) := by decide +kernel
theorem dX4_best_49 : decode cX4_best 49 = .ok (.iload_n 2, 1) := by decide +kernel
theorem dX4_best_50 : decode cX4_best 50 = .ok (.ireturn, 1) := by decide +kernel
theorem dX4_releaseAround_0 : decode cX4_releaseAround 0 = .ok (.aload_n 0, 1) := by decide +kernel
theorem dX4_releaseAround_1 : decode cX4_releaseAround 1 = .ok (.aload_n 1, 1) := by decide +kernel
theorem dX4_releaseAround_2 : decode cX4_releaseAround 2 = .ok (.iload_n 2, 1) := by decide +kernel
theorem dX4_releaseAround_3 : decode cX4_releaseAround 3 = .ok (.iload_n 3, 1) := by decide +kernel
theorem dX4_releaseAround_4 : decode cX4_releaseAround 4 = .ok (.invokevirtual 72, 3) := by decide +kernel
theorem dX4_releaseAround_7 : decode cX4_releaseAround 7 = .ok (.istore 4, 2) := by decide +kernel
theorem dX4_releaseAround_9 : decode cX4_releaseAround 9 = .ok (.aload_n 0, 1) := by decide +kernel
theorem dX4_releaseAround_10 : decode cX4_releaseAround 10 = .ok (.iload_n 2, 1) := by decide +kernel
theorem dX4_releaseAround_11 : decode cX4_releaseAround 11 = .ok (.invokevirtual 54, 3) := by decide +kernel
theorem dX4_releaseAround_14 : decode cX4_releaseAround 14 = .ok (.istore 5, 2) := by decide +kernel
theorem dX4_releaseAround_16 : decode cX4_releaseAround 16 = .ok (.iconst 0, 1) := by decide +kernel
theorem dX4_releaseAround_17 : decode cX4_releaseAround 17 = .ok (.istore 6, 2) := by decide +kernel
theorem dX4_releaseAround_19 : decode cX4_releaseAround 19 = .ok (.iload 6, 2) := by decide +kernel
theorem dX4_releaseAround_21 : decode cX4_releaseAround 21 = .ok (.bipush 7, 2) := by decide +kernel
theorem dX4_releaseAround_23 : decode cX4_releaseAround 23 = .ok (.if_icmp .ge 25, 3) := by decide +kernel
theorem dX4_releaseAround_26 : decode cX4_releaseAround 26 = .ok (.aload_n 0, 1) := by decide +kernel
theorem dX4_releaseAround_27 : decode cX4_releaseAround 27 = .ok (.getfield 14, 3) := by decide +kernel
theorem dX4_releaseAround_30 : decode cX4_releaseAround 30 = .ok (.aload_n 1, 1) := by decide +kernel
theorem dX4_releaseAround_31 : decode cX4_releaseAround 31 = .ok (.iload 5, 2) := by decide +kernel
theorem dX4_releaseAround_33 : decode cX4_releaseAround 33 = .ok (.iload 6, 2) := by decide +kernel
theorem dX4_releaseAround_35 : decode cX4_releaseAround 35 = .ok (.invokestatic 57, 3) := by decide +kernel
theorem dX4_releaseAround_38 : decode cX4_releaseAround 38 = .ok (.iload_n 3, 1) := by decide +kernel
theorem dX4_releaseAround_39 : decode cX4_releaseAround 39 = .ok (.invokevirtual 75, 3) := by decide +kernel
theorem dX4_releaseAround_42 : decode cX4_releaseAround 42 = .ok (.iinc 6 1, 3) := by decide +kernel
theorem dX4_releaseAround_45 : decode cX4_releaseAround 45 = .ok (.goto (-26), 3) := by decide +kernel
theorem dX4_releaseAround_48 : decode cX4_releaseAround 48 = .ok (.aload_n 1, 1) := by decide +kernel
theorem dX4_releaseAround_49 : decode cX4_releaseAround 49 = .ok (.dup, 1) := by decide +kernel
theorem dX4_releaseAround_50 : decode cX4_releaseAround 50 = .ok (.getfield 79, 3) := by decide +kernel
theorem dX4_releaseAround_53 : decode cX4_releaseAround 53 = .ok (.iconst 1, 1) := by decide +kernel
theorem dX4_releaseAround_54 : decode cX4_releaseAround 54 = .ok (.iadd, 1) := by decide +kernel
theorem dX4_releaseAround_55 : decode cX4_releaseAround 55 = .ok (.putfield 79, 3) := by decide +kernel
theorem dX4_releaseAround_58 : decode cX4_releaseAround 58 = .ok (.iload 4, 2) := by decide +kernel
theorem dX4_releaseAround_60 : decode cX4_releaseAround 60 = .ok (.ireturn, 1) := by decide +kernel
theorem dX4_releaseBest_0 : decode cX4_releaseBest 0 = .ok (.aload_n 0, 1) := by decide +kernel
theorem dX4_releaseBest_1 : decode cX4_releaseBest 1 = .ok (.aload_n 1, 1) := by decide +kernel
theorem dX4_releaseBest_2 : decode cX4_releaseBest 2 = .ok (.invokevirtual 84, 3) := by decide +kernel
theorem dX4_releaseBest_5 : decode cX4_releaseBest 5 = .ok (.istore_n 2, 1) := by decide +kernel
theorem dX4_releaseBest_6 : decode cX4_releaseBest 6 = .ok (.iload_n 2, 1) := by decide +kernel
theorem dX4_releaseBest_7 : decode cX4_releaseBest 7 = .ok (.iconst (-1), 1) := by decide +kernel
theorem dX4_releaseBest_8 : decode cX4_releaseBest 8 = .ok (.if_icmp .ne 7, 3) := by decide +kernel
theorem dX4_releaseBest_11 : decode cX4_releaseBest 11 = .ok (.iconst 0, 1) := by decide +kernel
theorem dX4_releaseBest_12 : decode cX4_releaseBest 12 = .ok (.goto 14, 3) := by decide +kernel
theorem dX4_releaseBest_15 : decode cX4_releaseBest 15 = .ok (.aload_n 0, 1) := by decide +kernel
theorem dX4_releaseBest_16 : decode cX4_releaseBest 16 = .ok (.aload_n 1, 1) := by decide +kernel
theorem dX4_releaseBest_17 : decode cX4_releaseBest 17 = .ok (.iload_n 2, 1) := by decide +kernel
theorem dX4_releaseBest_18 : decode cX4_releaseBest 18 = .ok (.aload_n 0, 1) := by decide +kernel
theorem dX4_releaseBest_19 : decode cX4_releaseBest 19 = .ok (.iload_n 2, 1) := by decide +kernel
theorem dX4_releaseBest_20 : decode cX4_releaseBest 20 = .ok (.invokevirtual 69, 3) := by decide +kernel
theorem dX4_releaseBest_23 : decode cX4_releaseBest 23 = .ok (.invokevirtual 88, 3) := by decide +kernel
theorem dX4_releaseBest_26 : decode cX4_releaseBest 26 = .ok (.ireturn, 1) := by decide +kernel
theorem dX5_init_0 : decode cX5_init 0 = .ok (.aload_n 0, 1) := by decide +kernel
theorem dX5_init_1 : decode cX5_init 1 = .ok (.invokespecial 3, 3) := by decide +kernel
theorem dX5_init_4 : decode cX5_init 4 = .ok (.aload_n 0, 1) := by decide +kernel
theorem dX5_init_5 : decode cX5_init 5 = .ok (.new 9, 3) := by decide +kernel
theorem dX5_init_8 : decode cX5_init 8 = .ok (.dup, 1) := by decide +kernel
theorem dX5_init_9 : decode cX5_init 9 = .ok (.invokespecial 11, 3) := by decide +kernel
theorem dX5_init_12 : decode cX5_init 12 = .ok (.putfield 12, 3) := by decide +kernel
theorem dX5_init_15 : decode cX5_init 15 = .ok (.aload_n 0, 1) := by decide +kernel
theorem dX5_init_16 : decode cX5_init 16 = .ok (.new 9, 3) := by decide +kernel
theorem dX5_init_19 : decode cX5_init 19 = .ok (.dup, 1) := by decide +kernel
theorem dX5_init_20 : decode cX5_init 20 = .ok (.invokespecial 11, 3) := by decide +kernel
theorem dX5_init_23 : decode cX5_init 23 = .ok (.putfield 16, 3) := by decide +kernel
theorem dX5_init_26 : decode cX5_init 26 = .ok (.aload_n 0, 1) := by decide +kernel
theorem dX5_init_27 : decode cX5_init 27 = .ok (.new 19, 3) := by decide +kernel
theorem dX5_init_30 : decode cX5_init 30 = .ok (.dup, 1) := by decide +kernel
theorem dX5_init_31 : decode cX5_init 31 = .ok (.invokespecial 21, 3) := by decide +kernel
theorem dX5_init_34 : decode cX5_init 34 = .ok (.putfield 22, 3) := by decide +kernel
theorem dX5_init_37 : decode cX5_init 37 = .ok (.aload_n 0, 1) := by decide +kernel
theorem dX5_init_38 : decode cX5_init 38 = .ok (.new 26, 3) := by decide +kernel
theorem dX5_init_41 : decode cX5_init 41 = .ok (.dup, 1) := by decide +kernel
theorem dX5_init_42 : decode cX5_init 42 = .ok (.invokespecial 28, 3) := by decide +kernel
theorem dX5_init_45 : decode cX5_init 45 = .ok (.putfield 29, 3) := by decide +kernel
theorem dX5_init_48 : decode cX5_init 48 = .ok (.aload_n 0, 1) := by decide +kernel
theorem dX5_init_49 : decode cX5_init 49 = .ok (.new 33, 3) := by decide +kernel
theorem dX5_init_52 : decode cX5_init 52 = .ok (.dup, 1) := by decide +kernel
theorem dX5_init_53 : decode cX5_init 53 = .ok (.invokespecial 35, 3) := by decide +kernel
theorem dX5_init_56 : decode cX5_init 56 = .ok (.putfield 36, 3) := by decide +kernel
theorem dX5_init_59 : decode cX5_init 59 = .ok (.aload_n 0, 1) := by decide +kernel
theorem dX5_init_60 : decode cX5_init 60 = .ok (.iconst 4, 1) := by decide +kernel
theorem dX5_init_61 : decode cX5_init 61 = .ok (.anewarray 9, 3) := by decide +kernel
theorem dX5_init_64 : decode cX5_init 64 = .ok (.putfield 40, 3) := by decide +kernel
theorem dX5_init_67 : decode cX5_init 67 = .ok (.return_, 1) := by decide +kernel
theorem dX5_begin_0 : decode cX5_begin 0 = .ok (.iload_n 1, 1) := by decide +kernel
theorem dX5_begin_1 : decode cX5_begin 1 = .ok (.iconst 2, 1) := by decide +kernel
theorem dX5_begin_2 : decode cX5_begin 2 = .ok (.if_icmp .lt 9, 3) := by decide +kernel
theorem dX5_begin_5 : decode cX5_begin 5 = .ok (.iload_n 1, 1) := by decide +kernel
theorem dX5_begin_6 : decode cX5_begin 6 = .ok (.bipush 7, 2) := by decide +kernel
theorem dX5_begin_8 : decode cX5_begin 8 = .ok (.if_icmp .le 13, 3) := by decide +kernel
theorem dX5_begin_11 : decode cX5_begin 11 = .ok (.new 44, 3) := by decide +kernel
theorem dX5_begin_14 : decode cX5_begin 14 = .ok (.dup, 1) := by decide +kernel
theorem dX5_begin_15 : decode cX5_begin 15 = .ok (.ldc 46, 2) := by decide +kernel
theorem dX5_begin_17 : decode cX5_begin 17 = .ok (.invokespecial 48, 3) := by decide +kernel
theorem dX5_begin_20 : decode cX5_begin 20 = .ok (.athrow, 1) := by decide +kernel
theorem dX5_begin_21 : decode cX5_begin 21 = .ok (.aload_n 0, 1) := by decide +kernel
theorem dX5_begin_22 : decode cX5_begin 22 = .ok (.invokevirtual 51, 3) := by decide +kernel
theorem dX5_begin_25 : decode cX5_begin 25 = .ok (.aload_n 0, 1) := by decide +kernel
theorem dX5_begin_26 : decode cX5_begin 26 = .ok (.getfield 12, 3) := by decide +kernel
theorem dX5_begin_29 : decode cX5_begin 29 = .ok (.getfield 54, 3) := by decide +kernel
theorem dX5_begin_32 : decode cX5_begin 32 = .ok (.istore_n 2, 1) := by decide +kernel
theorem dX5_begin_33 : decode cX5_begin 33 = .ok (.aload_n 0, 1) := by decide +kernel
theorem dX5_begin_34 : decode cX5_begin 34 = .ok (.getfield 12, 3) := by decide +kernel
theorem dX5_begin_37 : decode cX5_begin 37 = .ok (.iload_n 1, 1) := by decide +kernel
theorem dX5_begin_38 : decode cX5_begin 38 = .ok (.invokevirtual 58, 3) := by decide +kernel
theorem dX5_begin_41 : decode cX5_begin 41 = .ok (.iload_n 2, 1) := by decide +kernel
theorem dX5_begin_42 : decode cX5_begin 42 = .ok (.ireturn, 1) := by decide +kernel
theorem dX5_promise_0 : decode cX5_promise 0 = .ok (.aload_n 0, 1) := by decide +kernel
theorem dX5_promise_1 : decode cX5_promise 1 = .ok (.getfield 12, 3) := by decide +kernel
theorem dX5_promise_4 : decode cX5_promise 4 = .ok (.iload_n 1, 1) := by decide +kernel
theorem dX5_promise_5 : decode cX5_promise 5 = .ok (.invokevirtual 62, 3) := by decide +kernel
theorem dX5_promise_8 : decode cX5_promise 8 = .ok (.ifCond .eq 14, 3) := by decide +kernel
theorem dX5_promise_11 : decode cX5_promise 11 = .ok (.aload_n 0, 1) := by decide +kernel
theorem dX5_promise_12 : decode cX5_promise 12 = .ok (.getfield 12, 3) := by decide +kernel
theorem dX5_promise_15 : decode cX5_promise 15 = .ok (.iload_n 2, 1) := by decide +kernel
theorem dX5_promise_16 : decode cX5_promise 16 = .ok (.invokevirtual 62, 3) := by decide +kernel
theorem dX5_promise_19 : decode cX5_promise 19 = .ok (.ifCond .ne 13, 3) := by decide +kernel
theorem dX5_promise_22 : decode cX5_promise 22 = .ok (.new 66, 3) := by decide +kernel
theorem dX5_promise_25 : decode cX5_promise 25 = .ok (.dup, 1) := by decide +kernel
theorem dX5_promise_26 : decode cX5_promise 26 = .ok (.ldc 68, 2) := by decide +kernel
theorem dX5_promise_28 : decode cX5_promise 28 = .ok (.invokespecial 70, 3) := by decide +kernel
theorem dX5_promise_31 : decode cX5_promise 31 = .ok (.athrow, 1) := by decide +kernel
theorem dX5_promise_32 : decode cX5_promise 32 = .ok (.iload_n 1, 1) := by decide +kernel
theorem dX5_promise_33 : decode cX5_promise 33 = .ok (.iload_n 2, 1) := by decide +kernel
theorem dX5_promise_34 : decode cX5_promise 34 = .ok (.iload_n 3, 1) := by decide +kernel
theorem dX5_promise_35 : decode cX5_promise 35 = .ok (.iload 4, 2) := by decide +kernel
theorem dX5_promise_37 : decode cX5_promise 37 = .ok (.invokestatic 71, 3) := by decide +kernel
theorem dX5_promise_40 : decode cX5_promise 40 = .ok (.ifCond .ne 13, 3) := by decide +kernel
theorem dX5_promise_43 : decode cX5_promise 43 = .ok (.new 44, 3) := by decide +kernel
theorem dX5_promise_46 : decode cX5_promise 46 = .ok (.dup, 1) := by decide +kernel
theorem dX5_promise_47 : decode cX5_promise 47 = .ok (.ldc 75, 2) := by decide +kernel
theorem dX5_promise_49 : decode cX5_promise 49 = .ok (.invokespecial 48, 3) := by decide +kernel
theorem dX5_promise_52 : decode cX5_promise 52 = .ok (.athrow, 1) := by decide +kernel
theorem dX5_promise_53 : decode cX5_promise 53 = .ok (.aload_n 0, 1) := by decide +kernel
theorem dX5_promise_54 : decode cX5_promise 54 = .ok (.getfield 12, 3) := by decide +kernel
theorem dX5_promise_57 : decode cX5_promise 57 = .ok (.invokevirtual 77, 3) := by decide +kernel
theorem dX5_promise_60 : decode cX5_promise 60 = .ok (.ifCond .eq 13, 3) := by decide +kernel
theorem dX5_promise_63 : decode cX5_promise 63 = .ok (.new 81, 3) := by decide +kernel
theorem dX5_promise_66 : decode cX5_promise 66 = .ok (.dup, 1) := by decide +kernel
theorem dX5_promise_67 : decode cX5_promise 67 = .ok (.ldc 83, 2) := by decide +kernel
theorem dX5_promise_69 : decode cX5_promise 69 = .ok (.invokespecial 85, 3) := by decide +kernel
theorem dX5_promise_72 : decode cX5_promise 72 = .ok (.athrow, 1) := by decide +kernel
theorem dX5_promise_73 : decode cX5_promise 73 = .ok (.aload_n 0, 1) := by decide +kernel
theorem dX5_promise_74 : decode cX5_promise 74 = .ok (.invokevirtual 51, 3) := by decide +kernel
theorem dX5_promise_77 : decode cX5_promise 77 = .ok (.aload_n 0, 1) := by decide +kernel
theorem dX5_promise_78 : decode cX5_promise 78 = .ok (.getfield 12, 3) := by decide +kernel
theorem dX5_promise_81 : decode cX5_promise 81 = .ok (.iload_n 1, 1) := by decide +kernel
theorem dX5_promise_82 : decode cX5_promise 82 = .ok (.iload_n 2, 1) := by decide +kernel
theorem dX5_promise_83 : decode cX5_promise 83 = .ok (.iload_n 3, 1) := by decide +kernel
theorem dX5_promise_84 : decode cX5_promise 84 = .ok (.iload 4, 2) := by decide +kernel
theorem dX5_promise_86 : decode cX5_promise 86 = .ok (.invokevirtual 86, 3) := by decide +kernel
theorem dX5_promise_89 : decode cX5_promise 89 = .ok (.ireturn, 1) := by decide +kernel
theorem dX5_pay_0 : decode cX5_pay 0 = .ok (.aload_n 0, 1) := by decide +kernel
theorem dX5_pay_1 : decode cX5_pay 1 = .ok (.getfield 12, 3) := by decide +kernel
theorem dX5_pay_4 : decode cX5_pay 4 = .ok (.iload_n 1, 1) := by decide +kernel
theorem dX5_pay_5 : decode cX5_pay 5 = .ok (.invokevirtual 90, 3) := by decide +kernel
theorem dX5_pay_8 : decode cX5_pay 8 = .ok (.ifCond .ne 13, 3) := by decide +kernel
theorem dX5_pay_11 : decode cX5_pay 11 = .ok (.new 66, 3) := by decide +kernel
theorem dX5_pay_14 : decode cX5_pay 14 = .ok (.dup, 1) := by decide +kernel
theorem dX5_pay_15 : decode cX5_pay 15 = .ok (.ldc 93, 2) := by decide +kernel
theorem dX5_pay_17 : decode cX5_pay 17 = .ok (.invokespecial 70, 3) := by decide +kernel
theorem dX5_pay_20 : decode cX5_pay 20 = .ok (.athrow, 1) := by decide +kernel
theorem dX5_pay_21 : decode cX5_pay 21 = .ok (.iload_n 2, 1) := by decide +kernel
theorem dX5_pay_22 : decode cX5_pay 22 = .ok (.iconst 1, 1) := by decide +kernel
theorem dX5_pay_23 : decode cX5_pay 23 = .ok (.if_icmp .ge 13, 3) := by decide +kernel
theorem dX5_pay_26 : decode cX5_pay 26 = .ok (.new 44, 3) := by decide +kernel
theorem dX5_pay_29 : decode cX5_pay 29 = .ok (.dup, 1) := by decide +kernel
theorem dX5_pay_30 : decode cX5_pay 30 = .ok (.ldc 95, 2) := by decide +kernel
theorem dX5_pay_32 : decode cX5_pay 32 = .ok (.invokespecial 48, 3) := by decide +kernel
theorem dX5_pay_35 : decode cX5_pay 35 = .ok (.athrow, 1) := by decide +kernel
theorem dX5_pay_36 : decode cX5_pay 36 = .ok (.iload_n 2, 1) := by decide +kernel
theorem dX5_pay_37 : decode cX5_pay 37 = .ok (.aload_n 0, 1) := by decide +kernel
theorem dX5_pay_38 : decode cX5_pay 38 = .ok (.getfield 12, 3) := by decide +kernel
theorem dX5_pay_41 : decode cX5_pay 41 = .ok (.getfield 97, 3) := by decide +kernel
theorem dX5_pay_44 : decode cX5_pay 44 = .ok (.iload_n 1, 1) := by decide +kernel
theorem dX5_pay_45 : decode cX5_pay 45 = .ok (.iaload, 1) := by decide +kernel
theorem dX5_pay_46 : decode cX5_pay 46 = .ok (.if_icmp .le 13, 3) := by decide +kernel
theorem dX5_pay_49 : decode cX5_pay 49 = .ok (.new 81, 3) := by decide +kernel
theorem dX5_pay_52 : decode cX5_pay 52 = .ok (.dup, 1) := by decide +kernel
theorem dX5_pay_53 : decode cX5_pay 53 = .ok (.ldc 101, 2) := by decide +kernel
theorem dX5_pay_55 : decode cX5_pay 55 = .ok (.invokespecial 85, 3) := by decide +kernel
theorem dX5_pay_58 : decode cX5_pay 58 = .ok (.athrow, 1) := by decide +kernel
theorem dX5_pay_59 : decode cX5_pay 59 = .ok (.aload_n 0, 1) := by decide +kernel
theorem dX5_pay_60 : decode cX5_pay 60 = .ok (.invokevirtual 51, 3) := by decide +kernel
theorem dX5_pay_63 : decode cX5_pay 63 = .ok (.aload_n 0, 1) := by decide +kernel
theorem dX5_pay_64 : decode cX5_pay 64 = .ok (.getfield 12, 3) := by decide +kernel
theorem dX5_pay_67 : decode cX5_pay 67 = .ok (.iload_n 1, 1) := by decide +kernel
theorem dX5_pay_68 : decode cX5_pay 68 = .ok (.iload_n 2, 1) := by decide +kernel
theorem dX5_pay_69 : decode cX5_pay 69 = .ok (.invokevirtual 103, 3) := by decide +kernel
theorem dX5_pay_72 : decode cX5_pay 72 = .ok (.aload_n 0, 1) := by decide +kernel
theorem dX5_pay_73 : decode cX5_pay 73 = .ok (.getfield 12, 3) := by decide +kernel
theorem dX5_pay_76 : decode cX5_pay 76 = .ok (.getfield 97, 3) := by decide +kernel
theorem dX5_pay_79 : decode cX5_pay 79 = .ok (.iload_n 1, 1) := by decide +kernel
theorem dX5_pay_80 : decode cX5_pay 80 = .ok (.iaload, 1) := by decide +kernel
theorem dX5_pay_81 : decode cX5_pay 81 = .ok (.ireturn, 1) := by decide +kernel
theorem dX5_dispute_0 : decode cX5_dispute 0 = .ok (.aload_n 0, 1) := by decide +kernel
theorem dX5_dispute_1 : decode cX5_dispute 1 = .ok (.getfield 12, 3) := by decide +kernel
theorem dX5_dispute_4 : decode cX5_dispute 4 = .ok (.iload_n 1, 1) := by decide +kernel
theorem dX5_dispute_5 : decode cX5_dispute 5 = .ok (.invokevirtual 90, 3) := by decide +kernel
theorem dX5_dispute_8 : decode cX5_dispute 8 = .ok (.ifCond .ne 13, 3) := by decide +kernel
theorem dX5_dispute_11 : decode cX5_dispute 11 = .ok (.new 66, 3) := by decide +kernel
theorem dX5_dispute_14 : decode cX5_dispute 14 = .ok (.dup, 1) := by decide +kernel
theorem dX5_dispute_15 : decode cX5_dispute 15 = .ok (.ldc 93, 2) := by decide +kernel
theorem dX5_dispute_17 : decode cX5_dispute 17 = .ok (.invokespecial 70, 3) := by decide +kernel
theorem dX5_dispute_20 : decode cX5_dispute 20 = .ok (.athrow, 1) := by decide +kernel
theorem dX5_dispute_21 : decode cX5_dispute 21 = .ok (.aload_n 0, 1) := by decide +kernel
theorem dX5_dispute_22 : decode cX5_dispute 22 = .ok (.getfield 12, 3) := by decide +kernel
theorem dX5_dispute_25 : decode cX5_dispute 25 = .ok (.iload_n 1, 1) := by decide +kernel
theorem dX5_dispute_26 : decode cX5_dispute 26 = .ok (.invokevirtual 107, 3) := by decide +kernel
theorem dX5_dispute_29 : decode cX5_dispute 29 = .ok (.ifCond .ne 13, 3) := by decide +kernel
theorem dX5_dispute_32 : decode cX5_dispute 32 = .ok (.new 81, 3) := by decide +kernel
theorem dX5_dispute_35 : decode cX5_dispute 35 = .ok (.dup, 1) := by decide +kernel
theorem dX5_dispute_36 : decode cX5_dispute 36 = .ok (.ldc 110, 2) := by decide +kernel
theorem dX5_dispute_38 : decode cX5_dispute 38 = .ok (.invokespecial 85, 3) := by decide +kernel
theorem dX5_dispute_41 : decode cX5_dispute 41 = .ok (.athrow, 1) := by decide +kernel
theorem dX5_dispute_42 : decode cX5_dispute 42 = .ok (.aload_n 0, 1) := by decide +kernel
theorem dX5_dispute_43 : decode cX5_dispute 43 = .ok (.invokevirtual 51, 3) := by decide +kernel
theorem dX5_dispute_46 : decode cX5_dispute 46 = .ok (.aload_n 0, 1) := by decide +kernel
theorem dX5_dispute_47 : decode cX5_dispute 47 = .ok (.invokevirtual 112, 3) := by decide +kernel
theorem dX5_dispute_50 : decode cX5_dispute 50 = .ok (.istore_n 2, 1) := by decide +kernel
theorem dX5_dispute_51 : decode cX5_dispute 51 = .ok (.aload_n 0, 1) := by decide +kernel
theorem dX5_dispute_52 : decode cX5_dispute 52 = .ok (.getfield 12, 3) := by decide +kernel
theorem dX5_dispute_55 : decode cX5_dispute 55 = .ok (.getfield 116, 3) := by decide +kernel
theorem dX5_dispute_58 : decode cX5_dispute 58 = .ok (.iload_n 1, 1) := by decide +kernel
theorem dX5_dispute_59 : decode cX5_dispute 59 = .ok (.iconst 1, 1) := by decide +kernel
theorem dX5_dispute_60 : decode cX5_dispute 60 = .ok (.bastore, 1) := by decide +kernel
theorem dX5_dispute_61 : decode cX5_dispute 61 = .ok (.iload_n 2, 1) := by decide +kernel
theorem dX5_dispute_62 : decode cX5_dispute 62 = .ok (.aload_n 0, 1) := by decide +kernel
theorem dX5_dispute_63 : decode cX5_dispute 63 = .ok (.invokevirtual 112, 3) := by decide +kernel
theorem dX5_dispute_66 : decode cX5_dispute 66 = .ok (.isub, 1) := by decide +kernel
theorem dX5_dispute_67 : decode cX5_dispute 67 = .ok (.ireturn, 1) := by decide +kernel
theorem dX5_settle_0 : decode cX5_settle 0 = .ok (.aload_n 0, 1) := by decide +kernel
theorem dX5_settle_1 : decode cX5_settle 1 = .ok (.getfield 12, 3) := by decide +kernel
theorem dX5_settle_4 : decode cX5_settle 4 = .ok (.iload_n 1, 1) := by decide +kernel
theorem dX5_settle_5 : decode cX5_settle 5 = .ok (.invokevirtual 90, 3) := by decide +kernel
theorem dX5_settle_8 : decode cX5_settle 8 = .ok (.ifCond .ne 13, 3) := by decide +kernel
theorem dX5_settle_11 : decode cX5_settle 11 = .ok (.new 66, 3) := by decide +kernel
theorem dX5_settle_14 : decode cX5_settle 14 = .ok (.dup, 1) := by decide +kernel
theorem dX5_settle_15 : decode cX5_settle 15 = .ok (.ldc 93, 2) := by decide +kernel
theorem dX5_settle_17 : decode cX5_settle 17 = .ok (.invokespecial 70, 3) := by decide +kernel
theorem dX5_settle_20 : decode cX5_settle 20 = .ok (.athrow, 1) := by decide +kernel
theorem dX5_settle_21 : decode cX5_settle 21 = .ok (.aload_n 0, 1) := by decide +kernel
theorem dX5_settle_22 : decode cX5_settle 22 = .ok (.getfield 12, 3) := by decide +kernel
theorem dX5_settle_25 : decode cX5_settle 25 = .ok (.getfield 116, 3) := by decide +kernel
theorem dX5_settle_28 : decode cX5_settle 28 = .ok (.iload_n 1, 1) := by decide +kernel
theorem dX5_settle_29 : decode cX5_settle 29 = .ok (.baload, 1) := by decide +kernel
theorem dX5_settle_30 : decode cX5_settle 30 = .ok (.ifCond .ne 13, 3) := by decide +kernel
theorem dX5_settle_33 : decode cX5_settle 33 = .ok (.new 81, 3) := by decide +kernel
theorem dX5_settle_36 : decode cX5_settle 36 = .ok (.dup, 1) := by decide +kernel
theorem dX5_settle_37 : decode cX5_settle 37 = .ok (.ldc 120, 2) := by decide +kernel
theorem dX5_settle_39 : decode cX5_settle 39 = .ok (.invokespecial 85, 3) := by decide +kernel
theorem dX5_settle_42 : decode cX5_settle 42 = .ok (.athrow, 1) := by decide +kernel
theorem dX5_settle_43 : decode cX5_settle 43 = .ok (.aload_n 0, 1) := by decide +kernel
theorem dX5_settle_44 : decode cX5_settle 44 = .ok (.invokevirtual 51, 3) := by decide +kernel
theorem dX5_settle_47 : decode cX5_settle 47 = .ok (.aload_n 0, 1) := by decide +kernel
theorem dX5_settle_48 : decode cX5_settle 48 = .ok (.getfield 12, 3) := by decide +kernel
theorem dX5_settle_51 : decode cX5_settle 51 = .ok (.getfield 116, 3) := by decide +kernel
theorem dX5_settle_54 : decode cX5_settle 54 = .ok (.iload_n 1, 1) := by decide +kernel
theorem dX5_settle_55 : decode cX5_settle 55 = .ok (.iconst 0, 1) := by decide +kernel
theorem dX5_settle_56 : decode cX5_settle 56 = .ok (.bastore, 1) := by decide +kernel
theorem dX5_settle_57 : decode cX5_settle 57 = .ok (.aload_n 0, 1) := by decide +kernel
theorem dX5_settle_58 : decode cX5_settle 58 = .ok (.invokevirtual 112, 3) := by decide +kernel
theorem dX5_settle_61 : decode cX5_settle 61 = .ok (.ireturn, 1) := by decide +kernel
theorem dX5_discharge_0 : decode cX5_discharge 0 = .ok (.iload_n 1, 1) := by decide +kernel
theorem dX5_discharge_1 : decode cX5_discharge 1 = .ok (.ifCond .lt 11, 3) := by decide +kernel
theorem dX5_discharge_4 : decode cX5_discharge 4 = .ok (.iload_n 1, 1) := by decide +kernel
theorem dX5_discharge_5 : decode cX5_discharge 5 = .ok (.aload_n 0, 1) := by decide +kernel
theorem dX5_discharge_6 : decode cX5_discharge 6 = .ok (.invokevirtual 112, 3) := by decide +kernel
theorem dX5_discharge_9 : decode cX5_discharge 9 = .ok (.if_icmp .lt 13, 3) := by decide +kernel
theorem dX5_discharge_12 : decode cX5_discharge 12 = .ok (.new 66, 3) := by decide +kernel
theorem dX5_discharge_15 : decode cX5_discharge 15 = .ok (.dup, 1) := by decide +kernel
theorem dX5_discharge_16 : decode cX5_discharge 16 = .ok (.ldc 122, 2) := by decide +kernel
theorem dX5_discharge_18 : decode cX5_discharge 18 = .ok (.invokespecial 70, 3) := by decide +kernel
theorem dX5_discharge_21 : decode cX5_discharge 21 = .ok (.athrow, 1) := by decide +kernel
theorem dX5_discharge_22 : decode cX5_discharge 22 = .ok (.iload_n 2, 1) := by decide +kernel
theorem dX5_discharge_23 : decode cX5_discharge 23 = .ok (.iconst 1, 1) := by decide +kernel
theorem dX5_discharge_24 : decode cX5_discharge 24 = .ok (.if_icmp .ge 13, 3) := by decide +kernel
theorem dX5_discharge_27 : decode cX5_discharge 27 = .ok (.new 44, 3) := by decide +kernel
theorem dX5_discharge_30 : decode cX5_discharge 30 = .ok (.dup, 1) := by decide +kernel
theorem dX5_discharge_31 : decode cX5_discharge 31 = .ok (.ldc 124, 2) := by decide +kernel
theorem dX5_discharge_33 : decode cX5_discharge 33 = .ok (.invokespecial 48, 3) := by decide +kernel
theorem dX5_discharge_36 : decode cX5_discharge 36 = .ok (.athrow, 1) := by decide +kernel
theorem dX5_discharge_37 : decode cX5_discharge 37 = .ok (.iload_n 2, 1) := by decide +kernel
theorem dX5_discharge_38 : decode cX5_discharge 38 = .ok (.aload_n 0, 1) := by decide +kernel
theorem dX5_discharge_39 : decode cX5_discharge 39 = .ok (.getfield 22, 3) := by decide +kernel
theorem dX5_discharge_42 : decode cX5_discharge 42 = .ok (.iload_n 1, 1) := by decide +kernel
theorem dX5_discharge_43 : decode cX5_discharge 43 = .ok (.invokevirtual 126, 3) := by decide +kernel
theorem dX5_discharge_46 : decode cX5_discharge 46 = .ok (.if_icmp .le 13, 3) := by decide +kernel
theorem dX5_discharge_49 : decode cX5_discharge 49 = .ok (.new 81, 3) := by decide +kernel
theorem dX5_discharge_52 : decode cX5_discharge 52 = .ok (.dup, 1) := by decide +kernel
theorem dX5_discharge_53 : decode cX5_discharge 53 = .ok (.ldc 130, 2) := by decide +kernel
theorem dX5_discharge_55 : decode cX5_discharge 55 = .ok (.invokespecial 85, 3) := by decide +kernel
theorem dX5_discharge_58 : decode cX5_discharge 58 = .ok (.athrow, 1) := by decide +kernel
theorem dX5_discharge_59 : decode cX5_discharge 59 = .ok (.aload_n 0, 1) := by decide +kernel
theorem dX5_discharge_60 : decode cX5_discharge 60 = .ok (.invokevirtual 51, 3) := by decide +kernel
theorem dX5_discharge_63 : decode cX5_discharge 63 = .ok (.aload_n 0, 1) := by decide +kernel
theorem dX5_discharge_64 : decode cX5_discharge 64 = .ok (.getfield 22, 3) := by decide +kernel
theorem dX5_discharge_67 : decode cX5_discharge 67 = .ok (.aload_n 0, 1) := by decide +kernel
theorem dX5_discharge_68 : decode cX5_discharge 68 = .ok (.getfield 12, 3) := by decide +kernel
theorem dX5_discharge_71 : decode cX5_discharge 71 = .ok (.iload_n 1, 1) := by decide +kernel
theorem dX5_discharge_72 : decode cX5_discharge 72 = .ok (.iload_n 2, 1) := by decide +kernel
theorem dX5_discharge_73 : decode cX5_discharge 73 = .ok (.invokevirtual 132, 3) := by decide +kernel
theorem dX5_discharge_76 : decode cX5_discharge 76 = .ok (.ireturn, 1) := by decide +kernel
theorem dX5_dischargeBest_0 : decode cX5_dischargeBest 0 = .ok (.aload_n 0, 1) := by decide +kernel
theorem dX5_dischargeBest_1 : decode cX5_dischargeBest 1 = .ok (.invokevirtual 112, 3) := by decide +kernel
theorem dX5_dischargeBest_4 : decode cX5_dischargeBest 4 = .ok (.ifCond .ne 13, 3) := by decide +kernel
theorem dX5_dischargeBest_7 : decode cX5_dischargeBest 7 = .ok (.new 81, 3) := by decide +kernel
theorem dX5_dischargeBest_10 : decode cX5_dischargeBest 10 = .ok (.dup, 1) := by decide +kernel
theorem dX5_dischargeBest_11 : decode cX5_dischargeBest 11 = .ok (.ldc 136, 2) := by decide +kernel
theorem dX5_dischargeBest_13 : decode cX5_dischargeBest 13 = .ok (.invokespecial 85, 3) := by decide +kernel
theorem dX5_dischargeBest_16 : decode cX5_dischargeBest 16 = .ok (.athrow, 1) := by decide +kernel
theorem dX5_dischargeBest_17 : decode cX5_dischargeBest 17 = .ok (.aload_n 0, 1) := by decide +kernel
theorem dX5_dischargeBest_18 : decode cX5_dischargeBest 18 = .ok (.invokevirtual 51, 3) := by decide +kernel
theorem dX5_dischargeBest_21 : decode cX5_dischargeBest 21 = .ok (.aload_n 0, 1) := by decide +kernel
theorem dX5_dischargeBest_22 : decode cX5_dischargeBest 22 = .ok (.getfield 22, 3) := by decide +kernel
theorem dX5_dischargeBest_25 : decode cX5_dischargeBest 25 = .ok (.aload_n 0, 1) := by decide +kernel
theorem dX5_dischargeBest_26 : decode cX5_dischargeBest 26 = .ok (.getfield 12, 3) := by decide +kernel
theorem dX5_dischargeBest_29 : decode cX5_dischargeBest 29 = .ok (.invokevirtual 138, 3) := by decide +kernel
theorem dX5_dischargeBest_32 : decode cX5_dischargeBest 32 = .ok (.ireturn, 1) := by decide +kernel
theorem dX5_promiseOf_0 : decode cX5_promiseOf 0 = .ok (.aload_n 0, 1) := by decide +kernel
theorem dX5_promiseOf_1 : decode cX5_promiseOf 1 = .ok (.getfield 12, 3) := by decide +kernel
theorem dX5_promiseOf_4 : decode cX5_promiseOf 4 = .ok (.iload_n 1, 1) := by decide +kernel
theorem dX5_promiseOf_5 : decode cX5_promiseOf 5 = .ok (.invokevirtual 90, 3) := by decide +kernel
theorem dX5_promiseOf_8 : decode cX5_promiseOf 8 = .ok (.ifCond .ne 13, 3) := by decide +kernel
theorem dX5_promiseOf_11 : decode cX5_promiseOf 11 = .ok (.new 66, 3) := by decide +kernel
theorem dX5_promiseOf_14 : decode cX5_promiseOf 14 = .ok (.dup, 1) := by decide +kernel
theorem dX5_promiseOf_15 : decode cX5_promiseOf 15 = .ok (.ldc 93, 2) := by decide +kernel
theorem dX5_promiseOf_17 : decode cX5_promiseOf 17 = .ok (.invokespecial 70, 3) := by decide +kernel
theorem dX5_promiseOf_20 : decode cX5_promiseOf 20 = .ok (.athrow, 1) := by decide +kernel
theorem dX5_promiseOf_21 : decode cX5_promiseOf 21 = .ok (.iload_n 2, 1) := by decide +kernel
theorem dX5_promiseOf_22 : decode cX5_promiseOf 22 = .ok (.tableswitch 134 0 7 #[46, 56, 66, 76, 86, 104, 114, 124], 46) := by decide +kernel
theorem dX5_promiseOf_68 : decode cX5_promiseOf 68 = .ok (.aload_n 0, 1) := by decide +kernel
theorem dX5_promiseOf_69 : decode cX5_promiseOf 69 = .ok (.getfield 12, 3) := by decide +kernel
theorem dX5_promiseOf_72 : decode cX5_promiseOf 72 = .ok (.getfield 145, 3) := by decide +kernel
theorem dX5_promiseOf_75 : decode cX5_promiseOf 75 = .ok (.iload_n 1, 1) := by decide +kernel
theorem dX5_promiseOf_76 : decode cX5_promiseOf 76 = .ok (.iaload, 1) := by decide +kernel
theorem dX5_promiseOf_77 : decode cX5_promiseOf 77 = .ok (.ireturn, 1) := by decide +kernel
theorem dX5_promiseOf_78 : decode cX5_promiseOf 78 = .ok (.aload_n 0, 1) := by decide +kernel
theorem dX5_promiseOf_79 : decode cX5_promiseOf 79 = .ok (.getfield 12, 3) := by decide +kernel
theorem dX5_promiseOf_82 : decode cX5_promiseOf 82 = .ok (.getfield 148, 3) := by decide +kernel
theorem dX5_promiseOf_85 : decode cX5_promiseOf 85 = .ok (.iload_n 1, 1) := by decide +kernel
theorem dX5_promiseOf_86 : decode cX5_promiseOf 86 = .ok (.iaload, 1) := by decide +kernel
theorem dX5_promiseOf_87 : decode cX5_promiseOf 87 = .ok (.ireturn, 1) := by decide +kernel
theorem dX5_promiseOf_88 : decode cX5_promiseOf 88 = .ok (.aload_n 0, 1) := by decide +kernel
theorem dX5_promiseOf_89 : decode cX5_promiseOf 89 = .ok (.getfield 12, 3) := by decide +kernel
theorem dX5_promiseOf_92 : decode cX5_promiseOf 92 = .ok (.getfield 97, 3) := by decide +kernel
theorem dX5_promiseOf_95 : decode cX5_promiseOf 95 = .ok (.iload_n 1, 1) := by decide +kernel
theorem dX5_promiseOf_96 : decode cX5_promiseOf 96 = .ok (.iaload, 1) := by decide +kernel
theorem dX5_promiseOf_97 : decode cX5_promiseOf 97 = .ok (.ireturn, 1) := by decide +kernel
theorem dX5_promiseOf_98 : decode cX5_promiseOf 98 = .ok (.aload_n 0, 1) := by decide +kernel
theorem dX5_promiseOf_99 : decode cX5_promiseOf 99 = .ok (.getfield 12, 3) := by decide +kernel
theorem dX5_promiseOf_102 : decode cX5_promiseOf 102 = .ok (.getfield 151, 3) := by decide +kernel
theorem dX5_promiseOf_105 : decode cX5_promiseOf 105 = .ok (.iload_n 1, 1) := by decide +kernel
theorem dX5_promiseOf_106 : decode cX5_promiseOf 106 = .ok (.iaload, 1) := by decide +kernel
theorem dX5_promiseOf_107 : decode cX5_promiseOf 107 = .ok (.ireturn, 1) := by decide +kernel
theorem dX5_promiseOf_108 : decode cX5_promiseOf 108 = .ok (.aload_n 0, 1) := by decide +kernel
theorem dX5_promiseOf_109 : decode cX5_promiseOf 109 = .ok (.getfield 12, 3) := by decide +kernel
theorem dX5_promiseOf_112 : decode cX5_promiseOf 112 = .ok (.getfield 116, 3) := by decide +kernel
theorem dX5_promiseOf_115 : decode cX5_promiseOf 115 = .ok (.iload_n 1, 1) := by decide +kernel
theorem dX5_promiseOf_116 : decode cX5_promiseOf 116 = .ok (.baload, 1) := by decide +kernel
theorem dX5_promiseOf_117 : decode cX5_promiseOf 117 = .ok (.ifCond .eq 7, 3) := by decide +kernel
theorem dX5_promiseOf_120 : decode cX5_promiseOf 120 = .ok (.iconst 1, 1) := by decide +kernel
theorem dX5_promiseOf_121 : decode cX5_promiseOf 121 = .ok (.goto 4, 3) := by decide +kernel
theorem dX5_promiseOf_124 : decode cX5_promiseOf 124 = .ok (.iconst 0, 1) := by decide +kernel
theorem dX5_promiseOf_125 : decode cX5_promiseOf 125 = .ok (.ireturn, 1) := by decide +kernel
theorem dX5_promiseOf_126 : decode cX5_promiseOf 126 = .ok (.aload_n 0, 1) := by decide +kernel
theorem dX5_promiseOf_127 : decode cX5_promiseOf 127 = .ok (.getfield 12, 3) := by decide +kernel
theorem dX5_promiseOf_130 : decode cX5_promiseOf 130 = .ok (.getfield 154, 3) := by decide +kernel
theorem dX5_promiseOf_133 : decode cX5_promiseOf 133 = .ok (.iload_n 1, 1) := by decide +kernel
theorem dX5_promiseOf_134 : decode cX5_promiseOf 134 = .ok (.iaload, 1) := by decide +kernel
theorem dX5_promiseOf_135 : decode cX5_promiseOf 135 = .ok (.ireturn, 1) := by decide +kernel
theorem dX5_promiseOf_136 : decode cX5_promiseOf 136 = .ok (.aload_n 0, 1) := by decide +kernel
theorem dX5_promiseOf_137 : decode cX5_promiseOf 137 = .ok (.getfield 12, 3) := by decide +kernel
theorem dX5_promiseOf_140 : decode cX5_promiseOf 140 = .ok (.getfield 157, 3) := by decide +kernel
theorem dX5_promiseOf_143 : decode cX5_promiseOf 143 = .ok (.iload_n 1, 1) := by decide +kernel
theorem dX5_promiseOf_144 : decode cX5_promiseOf 144 = .ok (.iaload, 1) := by decide +kernel
theorem dX5_promiseOf_145 : decode cX5_promiseOf 145 = .ok (.ireturn, 1) := by decide +kernel
theorem dX5_promiseOf_146 : decode cX5_promiseOf 146 = .ok (.aload_n 0, 1) := by decide +kernel
theorem dX5_promiseOf_147 : decode cX5_promiseOf 147 = .ok (.getfield 12, 3) := by decide +kernel
theorem dX5_promiseOf_150 : decode cX5_promiseOf 150 = .ok (.getfield 160, 3) := by decide +kernel
theorem dX5_promiseOf_153 : decode cX5_promiseOf 153 = .ok (.iload_n 1, 1) := by decide +kernel
theorem dX5_promiseOf_154 : decode cX5_promiseOf 154 = .ok (.iaload, 1) := by decide +kernel
theorem dX5_promiseOf_155 : decode cX5_promiseOf 155 = .ok (.ireturn, 1) := by decide +kernel
theorem dX5_promiseOf_156 : decode cX5_promiseOf 156 = .ok (.new 44, 3) := by decide +kernel
theorem dX5_promiseOf_159 : decode cX5_promiseOf 159 = .ok (.dup, 1) := by decide +kernel
theorem dX5_promiseOf_160 : decode cX5_promiseOf 160 = .ok (.ldc 163, 2) := by decide +kernel
theorem dX5_promiseOf_162 : decode cX5_promiseOf 162 = .ok (.invokespecial 48, 3) := by decide +kernel
theorem dX5_promiseOf_165 : decode cX5_promiseOf 165 = .ok (.athrow, 1) := by decide +kernel
theorem dX5_debt_0 : decode cX5_debt 0 = .ok (.aload_n 0, 1) := by decide +kernel
theorem dX5_debt_1 : decode cX5_debt 1 = .ok (.getfield 12, 3) := by decide +kernel
theorem dX5_debt_4 : decode cX5_debt 4 = .ok (.iload_n 1, 1) := by decide +kernel
theorem dX5_debt_5 : decode cX5_debt 5 = .ok (.invokevirtual 62, 3) := by decide +kernel
theorem dX5_debt_8 : decode cX5_debt 8 = .ok (.ifCond .eq 14, 3) := by decide +kernel
theorem dX5_debt_11 : decode cX5_debt 11 = .ok (.aload_n 0, 1) := by decide +kernel
theorem dX5_debt_12 : decode cX5_debt 12 = .ok (.getfield 12, 3) := by decide +kernel
theorem dX5_debt_15 : decode cX5_debt 15 = .ok (.iload_n 2, 1) := by decide +kernel
theorem dX5_debt_16 : decode cX5_debt 16 = .ok (.invokevirtual 62, 3) := by decide +kernel
theorem dX5_debt_19 : decode cX5_debt 19 = .ok (.ifCond .ne 13, 3) := by decide +kernel
theorem dX5_debt_22 : decode cX5_debt 22 = .ok (.new 66, 3) := by decide +kernel
theorem dX5_debt_25 : decode cX5_debt 25 = .ok (.dup, 1) := by decide +kernel
theorem dX5_debt_26 : decode cX5_debt 26 = .ok (.ldc 68, 2) := by decide +kernel
theorem dX5_debt_28 : decode cX5_debt 28 = .ok (.invokespecial 70, 3) := by decide +kernel
theorem dX5_debt_31 : decode cX5_debt 31 = .ok (.athrow, 1) := by decide +kernel
theorem dX5_debt_32 : decode cX5_debt 32 = .ok (.aload_n 0, 1) := by decide +kernel
theorem dX5_debt_33 : decode cX5_debt 33 = .ok (.getfield 12, 3) := by decide +kernel
theorem dX5_debt_36 : decode cX5_debt 36 = .ok (.iload_n 1, 1) := by decide +kernel
theorem dX5_debt_37 : decode cX5_debt 37 = .ok (.iload_n 2, 1) := by decide +kernel
theorem dX5_debt_38 : decode cX5_debt 38 = .ok (.invokevirtual 165, 3) := by decide +kernel
theorem dX5_debt_41 : decode cX5_debt 41 = .ok (.ireturn, 1) := by decide +kernel
theorem dX5_net_0 : decode cX5_net 0 = .ok (.aload_n 0, 1) := by decide +kernel
theorem dX5_net_1 : decode cX5_net 1 = .ok (.getfield 12, 3) := by decide +kernel
theorem dX5_net_4 : decode cX5_net 4 = .ok (.iload_n 1, 1) := by decide +kernel
theorem dX5_net_5 : decode cX5_net 5 = .ok (.invokevirtual 62, 3) := by decide +kernel
theorem dX5_net_8 : decode cX5_net 8 = .ok (.ifCond .ne 13, 3) := by decide +kernel
theorem dX5_net_11 : decode cX5_net 11 = .ok (.new 66, 3) := by decide +kernel
theorem dX5_net_14 : decode cX5_net 14 = .ok (.dup, 1) := by decide +kernel
theorem dX5_net_15 : decode cX5_net 15 = .ok (.ldc 68, 2) := by decide +kernel
theorem dX5_net_17 : decode cX5_net 17 = .ok (.invokespecial 70, 3) := by decide +kernel
theorem dX5_net_20 : decode cX5_net 20 = .ok (.athrow, 1) := by decide +kernel
theorem dX5_net_21 : decode cX5_net 21 = .ok (.aload_n 0, 1) := by decide +kernel
theorem dX5_net_22 : decode cX5_net 22 = .ok (.getfield 12, 3) := by decide +kernel
theorem dX5_net_25 : decode cX5_net 25 = .ok (.iload_n 1, 1) := by decide +kernel
theorem dX5_net_26 : decode cX5_net 26 = .ok (.invokevirtual 169, 3) := by decide +kernel
theorem dX5_net_29 : decode cX5_net 29 = .ok (.ireturn, 1) := by decide +kernel
theorem dX5_ring_0 : decode cX5_ring 0 = .ok (.iload_n 1, 1) := by decide +kernel
theorem dX5_ring_1 : decode cX5_ring 1 = .ok (.ifCond .lt 11, 3) := by decide +kernel
theorem dX5_ring_4 : decode cX5_ring 4 = .ok (.iload_n 1, 1) := by decide +kernel
theorem dX5_ring_5 : decode cX5_ring 5 = .ok (.aload_n 0, 1) := by decide +kernel
theorem dX5_ring_6 : decode cX5_ring 6 = .ok (.invokevirtual 112, 3) := by decide +kernel
theorem dX5_ring_9 : decode cX5_ring 9 = .ok (.if_icmp .lt 13, 3) := by decide +kernel
theorem dX5_ring_12 : decode cX5_ring 12 = .ok (.new 66, 3) := by decide +kernel
theorem dX5_ring_15 : decode cX5_ring 15 = .ok (.dup, 1) := by decide +kernel
theorem dX5_ring_16 : decode cX5_ring 16 = .ok (.ldc 122, 2) := by decide +kernel
theorem dX5_ring_18 : decode cX5_ring 18 = .ok (.invokespecial 70, 3) := by decide +kernel
theorem dX5_ring_21 : decode cX5_ring 21 = .ok (.athrow, 1) := by decide +kernel
theorem dX5_ring_22 : decode cX5_ring 22 = .ok (.iload_n 2, 1) := by decide +kernel
theorem dX5_ring_23 : decode cX5_ring 23 = .ok (.ifCond .lt 9, 3) := by decide +kernel
theorem dX5_ring_26 : decode cX5_ring 26 = .ok (.iload_n 2, 1) := by decide +kernel
theorem dX5_ring_27 : decode cX5_ring 27 = .ok (.bipush 7, 2) := by decide +kernel
theorem dX5_ring_29 : decode cX5_ring 29 = .ok (.if_icmp .lt 13, 3) := by decide +kernel
theorem dX5_ring_32 : decode cX5_ring 32 = .ok (.new 44, 3) := by decide +kernel
theorem dX5_ring_35 : decode cX5_ring 35 = .ok (.dup, 1) := by decide +kernel
theorem dX5_ring_36 : decode cX5_ring 36 = .ok (.ldc 172, 2) := by decide +kernel
theorem dX5_ring_38 : decode cX5_ring 38 = .ok (.invokespecial 48, 3) := by decide +kernel
theorem dX5_ring_41 : decode cX5_ring 41 = .ok (.athrow, 1) := by decide +kernel
theorem dX5_ring_42 : decode cX5_ring 42 = .ok (.aload_n 0, 1) := by decide +kernel
theorem dX5_ring_43 : decode cX5_ring 43 = .ok (.getfield 22, 3) := by decide +kernel
theorem dX5_ring_46 : decode cX5_ring 46 = .ok (.iload_n 1, 1) := by decide +kernel
theorem dX5_ring_47 : decode cX5_ring 47 = .ok (.iload_n 2, 1) := by decide +kernel
theorem dX5_ring_48 : decode cX5_ring 48 = .ok (.invokevirtual 174, 3) := by decide +kernel
theorem dX5_ring_51 : decode cX5_ring 51 = .ok (.ireturn, 1) := by decide +kernel
theorem dX5_room_0 : decode cX5_room 0 = .ok (.iload_n 1, 1) := by decide +kernel
theorem dX5_room_1 : decode cX5_room 1 = .ok (.ifCond .lt 11, 3) := by decide +kernel
theorem dX5_room_4 : decode cX5_room 4 = .ok (.iload_n 1, 1) := by decide +kernel
theorem dX5_room_5 : decode cX5_room 5 = .ok (.aload_n 0, 1) := by decide +kernel
theorem dX5_room_6 : decode cX5_room 6 = .ok (.invokevirtual 112, 3) := by decide +kernel
theorem dX5_room_9 : decode cX5_room 9 = .ok (.if_icmp .lt 13, 3) := by decide +kernel
theorem dX5_room_12 : decode cX5_room 12 = .ok (.new 66, 3) := by decide +kernel
theorem dX5_room_15 : decode cX5_room 15 = .ok (.dup, 1) := by decide +kernel
theorem dX5_room_16 : decode cX5_room 16 = .ok (.ldc 122, 2) := by decide +kernel
theorem dX5_room_18 : decode cX5_room 18 = .ok (.invokespecial 70, 3) := by decide +kernel
theorem dX5_room_21 : decode cX5_room 21 = .ok (.athrow, 1) := by decide +kernel
theorem dX5_room_22 : decode cX5_room 22 = .ok (.aload_n 0, 1) := by decide +kernel
theorem dX5_room_23 : decode cX5_room 23 = .ok (.getfield 22, 3) := by decide +kernel
theorem dX5_room_26 : decode cX5_room 26 = .ok (.iload_n 1, 1) := by decide +kernel
theorem dX5_room_27 : decode cX5_room 27 = .ok (.invokevirtual 126, 3) := by decide +kernel
theorem dX5_room_30 : decode cX5_room 30 = .ok (.ireturn, 1) := by decide +kernel
theorem dX5_value_0 : decode cX5_value 0 = .ok (.iload_n 1, 1) := by decide +kernel
theorem dX5_value_1 : decode cX5_value 1 = .ok (.tableswitch 144 0 10 #[59, 67, 75, 83, 91, 99, 107, 112, 120, 128, 136], 59) := by decide +kernel
theorem dX5_value_60 : decode cX5_value 60 = .ok (.aload_n 0, 1) := by decide +kernel
theorem dX5_value_61 : decode cX5_value 61 = .ok (.getfield 12, 3) := by decide +kernel
theorem dX5_value_64 : decode cX5_value 64 = .ok (.getfield 177, 3) := by decide +kernel
theorem dX5_value_67 : decode cX5_value 67 = .ok (.ireturn, 1) := by decide +kernel
theorem dX5_value_68 : decode cX5_value 68 = .ok (.aload_n 0, 1) := by decide +kernel
theorem dX5_value_69 : decode cX5_value 69 = .ok (.getfield 12, 3) := by decide +kernel
theorem dX5_value_72 : decode cX5_value 72 = .ok (.getfield 54, 3) := by decide +kernel
theorem dX5_value_75 : decode cX5_value 75 = .ok (.ireturn, 1) := by decide +kernel
theorem dX5_value_76 : decode cX5_value 76 = .ok (.aload_n 0, 1) := by decide +kernel
theorem dX5_value_77 : decode cX5_value 77 = .ok (.getfield 12, 3) := by decide +kernel
theorem dX5_value_80 : decode cX5_value 80 = .ok (.invokevirtual 180, 3) := by decide +kernel
theorem dX5_value_83 : decode cX5_value 83 = .ok (.ireturn, 1) := by decide +kernel
theorem dX5_value_84 : decode cX5_value 84 = .ok (.aload_n 0, 1) := by decide +kernel
theorem dX5_value_85 : decode cX5_value 85 = .ok (.getfield 12, 3) := by decide +kernel
theorem dX5_value_88 : decode cX5_value 88 = .ok (.invokevirtual 183, 3) := by decide +kernel
theorem dX5_value_91 : decode cX5_value 91 = .ok (.ireturn, 1) := by decide +kernel
theorem dX5_value_92 : decode cX5_value 92 = .ok (.aload_n 0, 1) := by decide +kernel
theorem dX5_value_93 : decode cX5_value 93 = .ok (.getfield 12, 3) := by decide +kernel
theorem dX5_value_96 : decode cX5_value 96 = .ok (.invokevirtual 186, 3) := by decide +kernel
theorem dX5_value_99 : decode cX5_value 99 = .ok (.ireturn, 1) := by decide +kernel
theorem dX5_value_100 : decode cX5_value 100 = .ok (.aload_n 0, 1) := by decide +kernel
theorem dX5_value_101 : decode cX5_value 101 = .ok (.getfield 12, 3) := by decide +kernel
theorem dX5_value_104 : decode cX5_value 104 = .ok (.invokevirtual 189, 3) := by decide +kernel
theorem dX5_value_107 : decode cX5_value 107 = .ok (.ireturn, 1) := by decide +kernel
theorem dX5_value_108 : decode cX5_value 108 = .ok (.aload_n 0, 1) := by decide +kernel
theorem dX5_value_109 : decode cX5_value 109 = .ok (.invokevirtual 112, 3) := by decide +kernel
theorem dX5_value_112 : decode cX5_value 112 = .ok (.ireturn, 1) := by decide +kernel
theorem dX5_value_113 : decode cX5_value 113 = .ok (.aload_n 0, 1) := by decide +kernel
theorem dX5_value_114 : decode cX5_value 114 = .ok (.getfield 12, 3) := by decide +kernel
theorem dX5_value_117 : decode cX5_value 117 = .ok (.getfield 192, 3) := by decide +kernel
theorem dX5_value_120 : decode cX5_value 120 = .ok (.ireturn, 1) := by decide +kernel
theorem dX5_value_121 : decode cX5_value 121 = .ok (.aload_n 0, 1) := by decide +kernel
theorem dX5_value_122 : decode cX5_value 122 = .ok (.getfield 12, 3) := by decide +kernel
theorem dX5_value_125 : decode cX5_value 125 = .ok (.getfield 195, 3) := by decide +kernel
theorem dX5_value_128 : decode cX5_value 128 = .ok (.ireturn, 1) := by decide +kernel
theorem dX5_value_129 : decode cX5_value 129 = .ok (.aload_n 0, 1) := by decide +kernel
theorem dX5_value_130 : decode cX5_value 130 = .ok (.getfield 12, 3) := by decide +kernel
theorem dX5_value_133 : decode cX5_value 133 = .ok (.getfield 198, 3) := by decide +kernel
theorem dX5_value_136 : decode cX5_value 136 = .ok (.ireturn, 1) := by decide +kernel
theorem dX5_value_137 : decode cX5_value 137 = .ok (.aload_n 0, 1) := by decide +kernel
theorem dX5_value_138 : decode cX5_value 138 = .ok (.getfield 12, 3) := by decide +kernel
theorem dX5_value_141 : decode cX5_value 141 = .ok (.invokevirtual 201, 3) := by decide +kernel
theorem dX5_value_144 : decode cX5_value 144 = .ok (.ireturn, 1) := by decide +kernel
theorem dX5_value_145 : decode cX5_value 145 = .ok (.new 44, 3) := by decide +kernel
theorem dX5_value_148 : decode cX5_value 148 = .ok (.dup, 1) := by decide +kernel
theorem dX5_value_149 : decode cX5_value 149 = .ok (.ldc 204, 2) := by decide +kernel
theorem dX5_value_151 : decode cX5_value 151 = .ok (.invokespecial 48, 3) := by decide +kernel
theorem dX5_value_154 : decode cX5_value 154 = .ok (.athrow, 1) := by decide +kernel
theorem dX5_saving_0 : decode cX5_saving 0 = .ok (.iload_n 1, 1) := by decide +kernel
theorem dX5_saving_1 : decode cX5_saving 1 = .ok (.ifCond .lt 11, 3) := by decide +kernel
theorem dX5_saving_4 : decode cX5_saving 4 = .ok (.iload_n 1, 1) := by decide +kernel
theorem dX5_saving_5 : decode cX5_saving 5 = .ok (.aload_n 0, 1) := by decide +kernel
theorem dX5_saving_6 : decode cX5_saving 6 = .ok (.invokevirtual 112, 3) := by decide +kernel
theorem dX5_saving_9 : decode cX5_saving 9 = .ok (.if_icmp .lt 13, 3) := by decide +kernel
theorem dX5_saving_12 : decode cX5_saving 12 = .ok (.new 66, 3) := by decide +kernel
theorem dX5_saving_15 : decode cX5_saving 15 = .ok (.dup, 1) := by decide +kernel
theorem dX5_saving_16 : decode cX5_saving 16 = .ok (.ldc 122, 2) := by decide +kernel
theorem dX5_saving_18 : decode cX5_saving 18 = .ok (.invokespecial 70, 3) := by decide +kernel
theorem dX5_saving_21 : decode cX5_saving 21 = .ok (.athrow, 1) := by decide +kernel
theorem dX5_saving_22 : decode cX5_saving 22 = .ok (.aload_n 0, 1) := by decide +kernel
theorem dX5_saving_23 : decode cX5_saving 23 = .ok (.getfield 22, 3) := by decide +kernel
theorem dX5_saving_26 : decode cX5_saving 26 = .ok (.aload_n 0, 1) := by decide +kernel
theorem dX5_saving_27 : decode cX5_saving 27 = .ok (.getfield 12, 3) := by decide +kernel
theorem dX5_saving_30 : decode cX5_saving 30 = .ok (.iload_n 1, 1) := by decide +kernel
theorem dX5_saving_31 : decode cX5_saving 31 = .ok (.aload_n 0, 1) := by decide +kernel
theorem dX5_saving_32 : decode cX5_saving 32 = .ok (.getfield 22, 3) := by decide +kernel
theorem dX5_saving_35 : decode cX5_saving 35 = .ok (.iload_n 1, 1) := by decide +kernel
theorem dX5_saving_36 : decode cX5_saving 36 = .ok (.invokevirtual 126, 3) := by decide +kernel
theorem dX5_saving_39 : decode cX5_saving 39 = .ok (.invokevirtual 206, 3) := by decide +kernel
theorem dX5_saving_42 : decode cX5_saving 42 = .ok (.ireturn, 1) := by decide +kernel
theorem dX5_bestRing_0 : decode cX5_bestRing 0 = .ok (.aload_n 0, 1) := by decide +kernel
theorem dX5_bestRing_1 : decode cX5_bestRing 1 = .ok (.getfield 22, 3) := by decide +kernel
theorem dX5_bestRing_4 : decode cX5_bestRing 4 = .ok (.aload_n 0, 1) := by decide +kernel
theorem dX5_bestRing_5 : decode cX5_bestRing 5 = .ok (.getfield 12, 3) := by decide +kernel
theorem dX5_bestRing_8 : decode cX5_bestRing 8 = .ok (.invokevirtual 209, 3) := by decide +kernel
theorem dX5_bestRing_11 : decode cX5_bestRing 11 = .ok (.aload_n 0, 1) := by decide +kernel
theorem dX5_bestRing_12 : decode cX5_bestRing 12 = .ok (.getfield 22, 3) := by decide +kernel
theorem dX5_bestRing_15 : decode cX5_bestRing 15 = .ok (.aload_n 0, 1) := by decide +kernel
theorem dX5_bestRing_16 : decode cX5_bestRing 16 = .ok (.getfield 12, 3) := by decide +kernel
theorem dX5_bestRing_19 : decode cX5_bestRing 19 = .ok (.invokevirtual 213, 3) := by decide +kernel
theorem dX5_bestRing_22 : decode cX5_bestRing 22 = .ok (.ireturn, 1) := by decide +kernel
theorem dX5_undo_0 : decode cX5_undo 0 = .ok (.aload_n 0, 1) := by decide +kernel
theorem dX5_undo_1 : decode cX5_undo 1 = .ok (.getfield 262, 3) := by decide +kernel
theorem dX5_undo_4 : decode cX5_undo 4 = .ok (.ifCond .le 25, 3) := by decide +kernel
theorem dX5_undo_7 : decode cX5_undo 7 = .ok (.aload_n 0, 1) := by decide +kernel
theorem dX5_undo_8 : decode cX5_undo 8 = .ok (.getfield 262, 3) := by decide +kernel
theorem dX5_undo_11 : decode cX5_undo 11 = .ok (.iconst 4, 1) := by decide +kernel
theorem dX5_undo_12 : decode cX5_undo 12 = .ok (.if_icmp .gt 17, 3) := by decide +kernel
theorem dX5_undo_15 : decode cX5_undo 15 = .ok (.aload_n 0, 1) := by decide +kernel
theorem dX5_undo_16 : decode cX5_undo 16 = .ok (.getfield 40, 3) := by decide +kernel
theorem dX5_undo_19 : decode cX5_undo 19 = .ok (.aload_n 0, 1) := by decide +kernel
theorem dX5_undo_20 : decode cX5_undo 20 = .ok (.getfield 262, 3) := by decide +kernel
theorem dX5_undo_23 : decode cX5_undo 23 = .ok (.iconst 1, 1) := by decide +kernel
theorem dX5_undo_24 : decode cX5_undo 24 = .ok (.isub, 1) := by decide +kernel
theorem dX5_undo_25 : decode cX5_undo 25 = .ok (.aaload, 1) := by decide +kernel
theorem dX5_undo_26 : decode cX5_undo 26 = .ok (.goto 4, 3) := by decide +kernel
theorem dX5_undo_29 : decode cX5_undo 29 = .ok (.aconst_null, 1) := by decide +kernel
theorem dX5_undo_30 : decode cX5_undo 30 = .ok (.astore_n 1, 1) := by decide +kernel
theorem dX5_undo_31 : decode cX5_undo 31 = .ok (.aload_n 1, 1) := by decide +kernel
theorem dX5_undo_32 : decode cX5_undo 32 = .ok (.ifnonnull 14, 3) := by decide +kernel
theorem dX5_undo_35 : decode cX5_undo 35 = .ok (.new 81, 3) := by decide +kernel
theorem dX5_undo_38 : decode cX5_undo 38 = .ok (.dup, 1) := by decide +kernel
theorem dX5_undo_39 : decode cX5_undo 39 = .ok (.ldc_w 265, 3) := by decide +kernel
theorem dX5_undo_42 : decode cX5_undo 42 = .ok (.invokespecial 85, 3) := by decide +kernel
theorem dX5_undo_45 : decode cX5_undo 45 = .ok (.athrow, 1) := by decide +kernel
theorem dX5_undo_46 : decode cX5_undo 46 = .ok (.aload_n 0, 1) := by decide +kernel
theorem dX5_undo_47 : decode cX5_undo 47 = .ok (.getfield 12, 3) := by decide +kernel
theorem dX5_undo_50 : decode cX5_undo 50 = .ok (.aload_n 1, 1) := by decide +kernel
theorem dX5_undo_51 : decode cX5_undo 51 = .ok (.invokevirtual 216, 3) := by decide +kernel
theorem dX5_undo_54 : decode cX5_undo 54 = .ok (.aload_n 0, 1) := by decide +kernel
theorem dX5_undo_55 : decode cX5_undo 55 = .ok (.dup, 1) := by decide +kernel
theorem dX5_undo_56 : decode cX5_undo 56 = .ok (.getfield 262, 3) := by decide +kernel
theorem dX5_undo_59 : decode cX5_undo 59 = .ok (.iconst 1, 1) := by decide +kernel
theorem dX5_undo_60 : decode cX5_undo 60 = .ok (.isub, 1) := by decide +kernel
theorem dX5_undo_61 : decode cX5_undo 61 = .ok (.putfield 262, 3) := by decide +kernel
theorem dX5_undo_64 : decode cX5_undo 64 = .ok (.aload_n 0, 1) := by decide +kernel
theorem dX5_undo_65 : decode cX5_undo 65 = .ok (.getfield 262, 3) := by decide +kernel
theorem dX5_undo_68 : decode cX5_undo 68 = .ok (.ireturn, 1) := by decide +kernel
theorem dX5_digest_0 : decode cX5_digest 0 = .ok (.ldc2_w 267, 3) := by decide +kernel
theorem dX5_digest_3 : decode cX5_digest 3 = .ok (.aload_n 0, 1) := by decide +kernel
theorem dX5_digest_4 : decode cX5_digest 4 = .ok (.getfield 36, 3) := by decide +kernel
theorem dX5_digest_7 : decode cX5_digest 7 = .ok (.getfield 244, 3) := by decide +kernel
theorem dX5_digest_10 : decode cX5_digest 10 = .ok (.i2l, 1) := by decide +kernel
theorem dX5_digest_11 : decode cX5_digest 11 = .ok (.ladd, 1) := by decide +kernel
theorem dX5_digest_12 : decode cX5_digest 12 = .ok (.lstore_n 1, 1) := by decide +kernel
theorem dX5_digest_13 : decode cX5_digest 13 = .ok (.iconst 0, 1) := by decide +kernel
theorem dX5_digest_14 : decode cX5_digest 14 = .ok (.istore_n 3, 1) := by decide +kernel
theorem dX5_digest_15 : decode cX5_digest 15 = .ok (.iload_n 3, 1) := by decide +kernel
theorem dX5_digest_16 : decode cX5_digest 16 = .ok (.bipush 11, 2) := by decide +kernel
theorem dX5_digest_18 : decode cX5_digest 18 = .ok (.if_icmp .ge 22, 3) := by decide +kernel
theorem dX5_digest_21 : decode cX5_digest 21 = .ok (.ldc2_w 269, 3) := by decide +kernel
theorem dX5_digest_24 : decode cX5_digest 24 = .ok (.lload_n 1, 1) := by decide +kernel
theorem dX5_digest_25 : decode cX5_digest 25 = .ok (.lmul, 1) := by decide +kernel
theorem dX5_digest_26 : decode cX5_digest 26 = .ok (.aload_n 0, 1) := by decide +kernel
theorem dX5_digest_27 : decode cX5_digest 27 = .ok (.iload_n 3, 1) := by decide +kernel
theorem dX5_digest_28 : decode cX5_digest 28 = .ok (.invokevirtual 271, 3) := by decide +kernel
theorem dX5_digest_31 : decode cX5_digest 31 = .ok (.i2l, 1) := by decide +kernel
theorem dX5_digest_32 : decode cX5_digest 32 = .ok (.ladd, 1) := by decide +kernel
theorem dX5_digest_33 : decode cX5_digest 33 = .ok (.lstore_n 1, 1) := by decide +kernel
theorem dX5_digest_34 : decode cX5_digest 34 = .ok (.iinc 3 1, 3) := by decide +kernel
theorem dX5_digest_37 : decode cX5_digest 37 = .ok (.goto (-22), 3) := by decide +kernel
theorem dX5_digest_40 : decode cX5_digest 40 = .ok (.iconst 0, 1) := by decide +kernel
theorem dX5_digest_41 : decode cX5_digest 41 = .ok (.istore_n 3, 1) := by decide +kernel
theorem dX5_digest_42 : decode cX5_digest 42 = .ok (.iload_n 3, 1) := by decide +kernel
theorem dX5_digest_43 : decode cX5_digest 43 = .ok (.aload_n 0, 1) := by decide +kernel
theorem dX5_digest_44 : decode cX5_digest 44 = .ok (.getfield 12, 3) := by decide +kernel
theorem dX5_digest_47 : decode cX5_digest 47 = .ok (.getfield 54, 3) := by decide +kernel
theorem dX5_digest_50 : decode cX5_digest 50 = .ok (.if_icmp .ge 40, 3) := by decide +kernel
theorem dX5_digest_53 : decode cX5_digest 53 = .ok (.iconst 0, 1) := by decide +kernel
theorem dX5_digest_54 : decode cX5_digest 54 = .ok (.istore 4, 2) := by decide +kernel
theorem dX5_digest_56 : decode cX5_digest 56 = .ok (.iload 4, 2) := by decide +kernel
theorem dX5_digest_58 : decode cX5_digest 58 = .ok (.bipush 8, 2) := by decide +kernel
theorem dX5_digest_60 : decode cX5_digest 60 = .ok (.if_icmp .ge 24, 3) := by decide +kernel
theorem dX5_digest_63 : decode cX5_digest 63 = .ok (.ldc2_w 269, 3) := by decide +kernel
theorem dX5_digest_66 : decode cX5_digest 66 = .ok (.lload_n 1, 1) := by decide +kernel
theorem dX5_digest_67 : decode cX5_digest 67 = .ok (.lmul, 1) := by decide +kernel
theorem dX5_digest_68 : decode cX5_digest 68 = .ok (.aload_n 0, 1) := by decide +kernel
theorem dX5_digest_69 : decode cX5_digest 69 = .ok (.iload_n 3, 1) := by decide +kernel
theorem dX5_digest_70 : decode cX5_digest 70 = .ok (.iload 4, 2) := by decide +kernel
theorem dX5_digest_72 : decode cX5_digest 72 = .ok (.invokevirtual 274, 3) := by decide +kernel
theorem dX5_digest_75 : decode cX5_digest 75 = .ok (.i2l, 1) := by decide +kernel
theorem dX5_digest_76 : decode cX5_digest 76 = .ok (.ladd, 1) := by decide +kernel
theorem dX5_digest_77 : decode cX5_digest 77 = .ok (.lstore_n 1, 1) := by decide +kernel
theorem dX5_digest_78 : decode cX5_digest 78 = .ok (.iinc 4 1, 3) := by decide +kernel
theorem dX5_digest_81 : decode cX5_digest 81 = .ok (.goto (-25), 3) := by decide +kernel
theorem dX5_digest_84 : decode cX5_digest 84 = .ok (.iinc 3 1, 3) := by decide +kernel
theorem dX5_digest_87 : decode cX5_digest 87 = .ok (.goto (-45), 3) := by decide +kernel
theorem dX5_digest_90 : decode cX5_digest 90 = .ok (.iconst 0, 1) := by decide +kernel
theorem dX5_digest_91 : decode cX5_digest 91 = .ok (.istore_n 3, 1) := by decide +kernel
theorem dX5_digest_92 : decode cX5_digest 92 = .ok (.iload_n 3, 1) := by decide +kernel
theorem dX5_digest_93 : decode cX5_digest 93 = .ok (.aload_n 0, 1) := by decide +kernel
theorem dX5_digest_94 : decode cX5_digest 94 = .ok (.getfield 12, 3) := by decide +kernel
theorem dX5_digest_97 : decode cX5_digest 97 = .ok (.getfield 177, 3) := by decide +kernel
theorem dX5_digest_100 : decode cX5_digest 100 = .ok (.if_icmp .ge 64, 3) := by decide +kernel
theorem dX5_digest_103 : decode cX5_digest 103 = .ok (.ldc2_w 269, 3) := by decide +kernel
theorem dX5_digest_106 : decode cX5_digest 106 = .ok (.lload_n 1, 1) := by decide +kernel
theorem dX5_digest_107 : decode cX5_digest 107 = .ok (.lmul, 1) := by decide +kernel
theorem dX5_digest_108 : decode cX5_digest 108 = .ok (.aload_n 0, 1) := by decide +kernel
theorem dX5_digest_109 : decode cX5_digest 109 = .ok (.getfield 12, 3) := by decide +kernel
theorem dX5_digest_112 : decode cX5_digest 112 = .ok (.iload_n 3, 1) := by decide +kernel
theorem dX5_digest_113 : decode cX5_digest 113 = .ok (.invokevirtual 169, 3) := by decide +kernel
theorem dX5_digest_116 : decode cX5_digest 116 = .ok (.i2l, 1) := by decide +kernel
theorem dX5_digest_117 : decode cX5_digest 117 = .ok (.ladd, 1) := by decide +kernel
theorem dX5_digest_118 : decode cX5_digest 118 = .ok (.lstore_n 1, 1) := by decide +kernel
theorem dX5_digest_119 : decode cX5_digest 119 = .ok (.iconst 0, 1) := by decide +kernel
theorem dX5_digest_120 : decode cX5_digest 120 = .ok (.istore 4, 2) := by decide +kernel
theorem dX5_digest_122 : decode cX5_digest 122 = .ok (.iload 4, 2) := by decide +kernel
theorem dX5_digest_124 : decode cX5_digest 124 = .ok (.aload_n 0, 1) := by decide +kernel
theorem dX5_digest_125 : decode cX5_digest 125 = .ok (.getfield 12, 3) := by decide +kernel
theorem dX5_digest_128 : decode cX5_digest 128 = .ok (.getfield 177, 3) := by decide +kernel
theorem dX5_digest_131 : decode cX5_digest 131 = .ok (.if_icmp .ge 27, 3) := by decide +kernel
theorem dX5_digest_134 : decode cX5_digest 134 = .ok (.ldc2_w 269, 3) := by decide +kernel
theorem dX5_digest_137 : decode cX5_digest 137 = .ok (.lload_n 1, 1) := by decide +kernel
theorem dX5_digest_138 : decode cX5_digest 138 = .ok (.lmul, 1) := by decide +kernel
theorem dX5_digest_139 : decode cX5_digest 139 = .ok (.aload_n 0, 1) := by decide +kernel
theorem dX5_digest_140 : decode cX5_digest 140 = .ok (.getfield 12, 3) := by decide +kernel
theorem dX5_digest_143 : decode cX5_digest 143 = .ok (.iload_n 3, 1) := by decide +kernel
theorem dX5_digest_144 : decode cX5_digest 144 = .ok (.iload 4, 2) := by decide +kernel
theorem dX5_digest_146 : decode cX5_digest 146 = .ok (.invokevirtual 165, 3) := by decide +kernel
theorem dX5_digest_149 : decode cX5_digest 149 = .ok (.i2l, 1) := by decide +kernel
theorem dX5_digest_150 : decode cX5_digest 150 = .ok (.ladd, 1) := by decide +kernel
theorem dX5_digest_151 : decode cX5_digest 151 = .ok (.lstore_n 1, 1) := by decide +kernel
theorem dX5_digest_152 : decode cX5_digest 152 = .ok (.iinc 4 1, 3) := by decide +kernel
theorem dX5_digest_155 : decode cX5_digest 155 = .ok (.goto (-33), 3) := by decide +kernel
theorem dX5_digest_158 : decode cX5_digest 158 = .ok (.iinc 3 1, 3) := by decide +kernel
theorem dX5_digest_161 : decode cX5_digest 161 = .ok (.goto (-69), 3) := by decide +kernel
theorem dX5_digest_164 : decode cX5_digest 164 = .ok (.ldc2_w 269, 3) := by decide +kernel
theorem dX5_digest_167 : decode cX5_digest 167 = .ok (.lload_n 1, 1) := by decide +kernel
theorem dX5_digest_168 : decode cX5_digest 168 = .ok (.lmul, 1) := by decide +kernel
theorem dX5_digest_169 : decode cX5_digest 169 = .ok (.aload_n 0, 1) := by decide +kernel
theorem dX5_digest_170 : decode cX5_digest 170 = .ok (.invokevirtual 277, 3) := by decide +kernel
theorem dX5_digest_173 : decode cX5_digest 173 = .ok (.i2l, 1) := by decide +kernel
theorem dX5_digest_174 : decode cX5_digest 174 = .ok (.ladd, 1) := by decide +kernel
theorem dX5_digest_175 : decode cX5_digest 175 = .ok (.lstore_n 1, 1) := by decide +kernel
theorem dX5_digest_176 : decode cX5_digest 176 = .ok (.ldc2_w 269, 3) := by decide +kernel
theorem dX5_digest_179 : decode cX5_digest 179 = .ok (.lload_n 1, 1) := by decide +kernel
theorem dX5_digest_180 : decode cX5_digest 180 = .ok (.lmul, 1) := by decide +kernel
theorem dX5_digest_181 : decode cX5_digest 181 = .ok (.aload_n 0, 1) := by decide +kernel
theorem dX5_digest_182 : decode cX5_digest 182 = .ok (.getfield 29, 3) := by decide +kernel
theorem dX5_digest_185 : decode cX5_digest 185 = .ok (.aload_n 0, 1) := by decide +kernel
theorem dX5_digest_186 : decode cX5_digest 186 = .ok (.getfield 12, 3) := by decide +kernel
theorem dX5_digest_189 : decode cX5_digest 189 = .ok (.invokevirtual 219, 3) := by decide +kernel
theorem dX5_digest_192 : decode cX5_digest 192 = .ok (.i2l, 1) := by decide +kernel
theorem dX5_digest_193 : decode cX5_digest 193 = .ok (.ladd, 1) := by decide +kernel
theorem dX5_digest_194 : decode cX5_digest 194 = .ok (.lstore_n 1, 1) := by decide +kernel
theorem dX5_digest_195 : decode cX5_digest 195 = .ok (.ldc2_w 269, 3) := by decide +kernel
theorem dX5_digest_198 : decode cX5_digest 198 = .ok (.lload_n 1, 1) := by decide +kernel
theorem dX5_digest_199 : decode cX5_digest 199 = .ok (.lmul, 1) := by decide +kernel
theorem dX5_digest_200 : decode cX5_digest 200 = .ok (.aload_n 0, 1) := by decide +kernel
theorem dX5_digest_201 : decode cX5_digest 201 = .ok (.getfield 262, 3) := by decide +kernel
theorem dX5_digest_204 : decode cX5_digest 204 = .ok (.i2l, 1) := by decide +kernel
theorem dX5_digest_205 : decode cX5_digest 205 = .ok (.ladd, 1) := by decide +kernel
theorem dX5_digest_206 : decode cX5_digest 206 = .ok (.lreturn, 1) := by decide +kernel
theorem dX5_canBePromised_0 : decode cX5_canBePromised 0 = .ok (.iload_n 2, 1) := by decide +kernel
theorem dX5_canBePromised_1 : decode cX5_canBePromised 1 = .ok (.iconst 1, 1) := by decide +kernel
theorem dX5_canBePromised_2 : decode cX5_canBePromised 2 = .ok (.if_icmp .lt 30, 3) := by decide +kernel
theorem dX5_canBePromised_5 : decode cX5_canBePromised 5 = .ok (.iload_n 2, 1) := by decide +kernel
theorem dX5_canBePromised_6 : decode cX5_canBePromised 6 = .ok (.sipush 1000, 3) := by decide +kernel
theorem dX5_canBePromised_9 : decode cX5_canBePromised 9 = .ok (.if_icmp .gt 23, 3) := by decide +kernel
theorem dX5_canBePromised_12 : decode cX5_canBePromised 12 = .ok (.iload_n 3, 1) := by decide +kernel
theorem dX5_canBePromised_13 : decode cX5_canBePromised 13 = .ok (.iconst 1, 1) := by decide +kernel
theorem dX5_canBePromised_14 : decode cX5_canBePromised 14 = .ok (.if_icmp .lt 18, 3) := by decide +kernel
theorem dX5_canBePromised_17 : decode cX5_canBePromised 17 = .ok (.iload_n 3, 1) := by decide +kernel
theorem dX5_canBePromised_18 : decode cX5_canBePromised 18 = .ok (.bipush 9, 2) := by decide +kernel
theorem dX5_canBePromised_20 : decode cX5_canBePromised 20 = .ok (.if_icmp .gt 12, 3) := by decide +kernel
theorem dX5_canBePromised_23 : decode cX5_canBePromised 23 = .ok (.iload_n 0, 1) := by decide +kernel
theorem dX5_canBePromised_24 : decode cX5_canBePromised 24 = .ok (.iload_n 1, 1) := by decide +kernel
theorem dX5_canBePromised_25 : decode cX5_canBePromised 25 = .ok (.if_icmp .eq 7, 3) := by decide +kernel
theorem dX5_canBePromised_28 : decode cX5_canBePromised 28 = .ok (.iconst 1, 1) := by decide +kernel
theorem dX5_canBePromised_29 : decode cX5_canBePromised 29 = .ok (.goto 4, 3) := by decide +kernel
theorem dX5_canBePromised_32 : decode cX5_canBePromised 32 = .ok (.iconst 0, 1) := by decide +kernel
theorem dX5_canBePromised_33 : decode cX5_canBePromised 33 = .ok (.ireturn, 1) := by decide +kernel
theorem dX5_isParty_0 : decode cX5_isParty 0 = .ok (.iload_n 0, 1) := by decide +kernel
theorem dX5_isParty_1 : decode cX5_isParty 1 = .ok (.ifCond .lt 13, 3) := by decide +kernel
theorem dX5_isParty_4 : decode cX5_isParty 4 = .ok (.iload_n 0, 1) := by decide +kernel
theorem dX5_isParty_5 : decode cX5_isParty 5 = .ok (.bipush 7, 2) := by decide +kernel
theorem dX5_isParty_7 : decode cX5_isParty 7 = .ok (.if_icmp .ge 7, 3) := by decide +kernel
theorem dX5_isParty_10 : decode cX5_isParty 10 = .ok (.iconst 1, 1) := by decide +kernel
theorem dX5_isParty_11 : decode cX5_isParty 11 = .ok (.goto 4, 3) := by decide +kernel
theorem dX5_isParty_14 : decode cX5_isParty 14 = .ok (.iconst 0, 1) := by decide +kernel
theorem dX5_isParty_15 : decode cX5_isParty 15 = .ok (.ireturn, 1) := by decide +kernel
theorem dX5_isPair_0 : decode cX5_isPair 0 = .ok (.iload_n 0, 1) := by decide +kernel
theorem dX5_isPair_1 : decode cX5_isPair 1 = .ok (.ifCond .lt 13, 3) := by decide +kernel
theorem dX5_isPair_4 : decode cX5_isPair 4 = .ok (.iload_n 0, 1) := by decide +kernel
theorem dX5_isPair_5 : decode cX5_isPair 5 = .ok (.bipush 49, 2) := by decide +kernel
theorem dX5_isPair_7 : decode cX5_isPair 7 = .ok (.if_icmp .ge 7, 3) := by decide +kernel
theorem dX5_isPair_10 : decode cX5_isPair 10 = .ok (.iconst 1, 1) := by decide +kernel
theorem dX5_isPair_11 : decode cX5_isPair 11 = .ok (.goto 4, 3) := by decide +kernel
theorem dX5_isPair_14 : decode cX5_isPair 14 = .ok (.iconst 0, 1) := by decide +kernel
theorem dX5_isPair_15 : decode cX5_isPair 15 = .ok (.ireturn, 1) := by decide +kernel
theorem dX5_isSlot_0 : decode cX5_isSlot 0 = .ok (.iload_n 0, 1) := by decide +kernel
theorem dX5_isSlot_1 : decode cX5_isSlot 1 = .ok (.ifCond .lt 13, 3) := by decide +kernel
theorem dX5_isSlot_4 : decode cX5_isSlot 4 = .ok (.iload_n 0, 1) := by decide +kernel
theorem dX5_isSlot_5 : decode cX5_isSlot 5 = .ok (.bipush 40, 2) := by decide +kernel
theorem dX5_isSlot_7 : decode cX5_isSlot 7 = .ok (.if_icmp .ge 7, 3) := by decide +kernel
theorem dX5_isSlot_10 : decode cX5_isSlot 10 = .ok (.iconst 1, 1) := by decide +kernel
theorem dX5_isSlot_11 : decode cX5_isSlot 11 = .ok (.goto 4, 3) := by decide +kernel
theorem dX5_isSlot_14 : decode cX5_isSlot 14 = .ok (.iconst 0, 1) := by decide +kernel
theorem dX5_isSlot_15 : decode cX5_isSlot 15 = .ok (.ireturn, 1) := by decide +kernel
theorem dX5_countRings_0 : decode cX5_countRings 0 = .ok (.aload_n 0, 1) := by decide +kernel
theorem dX5_countRings_1 : decode cX5_countRings 1 = .ok (.getfield 22, 3) := by decide +kernel
theorem dX5_countRings_4 : decode cX5_countRings 4 = .ok (.aload_n 0, 1) := by decide +kernel
theorem dX5_countRings_5 : decode cX5_countRings 5 = .ok (.getfield 12, 3) := by decide +kernel
theorem dX5_countRings_8 : decode cX5_countRings 8 = .ok (.invokevirtual 209, 3) := by decide +kernel
theorem dX5_countRings_11 : decode cX5_countRings 11 = .ok (.aload_n 0, 1) := by decide +kernel
theorem dX5_countRings_12 : decode cX5_countRings 12 = .ok (.getfield 22, 3) := by decide +kernel
theorem dX5_countRings_15 : decode cX5_countRings 15 = .ok (.getfield 280, 3) := by decide +kernel
theorem dX5_countRings_18 : decode cX5_countRings 18 = .ok (.ireturn, 1) := by decide +kernel
theorem dX5_save_0 : decode cX5_save 0 = .ok (.aload_n 0, 1) := by decide +kernel
theorem dX5_save_1 : decode cX5_save 1 = .ok (.getfield 262, 3) := by decide +kernel
theorem dX5_save_4 : decode cX5_save 4 = .ok (.iconst 4, 1) := by decide +kernel
theorem dX5_save_5 : decode cX5_save 5 = .ok (.if_icmp .lt 7, 3) := by decide +kernel
theorem dX5_save_8 : decode cX5_save 8 = .ok (.aload_n 0, 1) := by decide +kernel
theorem dX5_save_9 : decode cX5_save 9 = .ok (.invokevirtual 283, 3) := by decide +kernel
theorem dX5_save_12 : decode cX5_save 12 = .ok (.aload_n 0, 1) := by decide +kernel
theorem dX5_save_13 : decode cX5_save 13 = .ok (.getfield 40, 3) := by decide +kernel
theorem dX5_save_16 : decode cX5_save 16 = .ok (.aload_n 0, 1) := by decide +kernel
theorem dX5_save_17 : decode cX5_save 17 = .ok (.getfield 262, 3) := by decide +kernel
theorem dX5_save_20 : decode cX5_save 20 = .ok (.aaload, 1) := by decide +kernel
theorem dX5_save_21 : decode cX5_save 21 = .ok (.astore_n 1, 1) := by decide +kernel
theorem dX5_save_22 : decode cX5_save 22 = .ok (.aload_n 1, 1) := by decide +kernel
theorem dX5_save_23 : decode cX5_save 23 = .ok (.ifnonnull 21, 3) := by decide +kernel
theorem dX5_save_26 : decode cX5_save 26 = .ok (.new 9, 3) := by decide +kernel
theorem dX5_save_29 : decode cX5_save 29 = .ok (.dup, 1) := by decide +kernel
theorem dX5_save_30 : decode cX5_save 30 = .ok (.invokespecial 11, 3) := by decide +kernel
theorem dX5_save_33 : decode cX5_save 33 = .ok (.astore_n 1, 1) := by decide +kernel
theorem dX5_save_34 : decode cX5_save 34 = .ok (.aload_n 0, 1) := by decide +kernel
theorem dX5_save_35 : decode cX5_save 35 = .ok (.getfield 40, 3) := by decide +kernel
theorem dX5_save_38 : decode cX5_save 38 = .ok (.aload_n 0, 1) := by decide +kernel
theorem dX5_save_39 : decode cX5_save 39 = .ok (.getfield 262, 3) := by decide +kernel
theorem dX5_save_42 : decode cX5_save 42 = .ok (.aload_n 1, 1) := by decide +kernel
theorem dX5_save_43 : decode cX5_save 43 = .ok (.aastore, 1) := by decide +kernel
theorem dX5_save_44 : decode cX5_save 44 = .ok (.aload_n 1, 1) := by decide +kernel
theorem dX5_save_45 : decode cX5_save 45 = .ok (.aload_n 0, 1) := by decide +kernel
theorem dX5_save_46 : decode cX5_save 46 = .ok (.getfield 12, 3) := by decide +kernel
theorem dX5_save_49 : decode cX5_save 49 = .ok (.invokevirtual 216, 3) := by decide +kernel
theorem dX5_save_52 : decode cX5_save 52 = .ok (.aload_n 0, 1) := by decide +kernel
theorem dX5_save_53 : decode cX5_save 53 = .ok (.dup, 1) := by decide +kernel
theorem dX5_save_54 : decode cX5_save 54 = .ok (.getfield 262, 3) := by decide +kernel
theorem dX5_save_57 : decode cX5_save 57 = .ok (.iconst 1, 1) := by decide +kernel
theorem dX5_save_58 : decode cX5_save 58 = .ok (.iadd, 1) := by decide +kernel
theorem dX5_save_59 : decode cX5_save 59 = .ok (.putfield 262, 3) := by decide +kernel
theorem dX5_save_62 : decode cX5_save 62 = .ok (.return_, 1) := by decide +kernel
theorem dX5_dropOldest_0 : decode cX5_dropOldest 0 = .ok (.aload_n 0, 1) := by decide +kernel
theorem dX5_dropOldest_1 : decode cX5_dropOldest 1 = .ok (.getfield 40, 3) := by decide +kernel
theorem dX5_dropOldest_4 : decode cX5_dropOldest 4 = .ok (.iconst 0, 1) := by decide +kernel
theorem dX5_dropOldest_5 : decode cX5_dropOldest 5 = .ok (.aaload, 1) := by decide +kernel
theorem dX5_dropOldest_6 : decode cX5_dropOldest 6 = .ok (.astore_n 1, 1) := by decide +kernel
theorem dX5_dropOldest_7 : decode cX5_dropOldest 7 = .ok (.iconst 1, 1) := by decide +kernel
theorem dX5_dropOldest_8 : decode cX5_dropOldest 8 = .ok (.istore_n 2, 1) := by decide +kernel
theorem dX5_dropOldest_9 : decode cX5_dropOldest 9 = .ok (.iload_n 2, 1) := by decide +kernel
theorem dX5_dropOldest_10 : decode cX5_dropOldest 10 = .ok (.iconst 4, 1) := by decide +kernel
theorem dX5_dropOldest_11 : decode cX5_dropOldest 11 = .ok (.if_icmp .ge 23, 3) := by decide +kernel
theorem dX5_dropOldest_14 : decode cX5_dropOldest 14 = .ok (.aload_n 0, 1) := by decide +kernel
theorem dX5_dropOldest_15 : decode cX5_dropOldest 15 = .ok (.getfield 40, 3) := by decide +kernel
theorem dX5_dropOldest_18 : decode cX5_dropOldest 18 = .ok (.iload_n 2, 1) := by decide +kernel
theorem dX5_dropOldest_19 : decode cX5_dropOldest 19 = .ok (.iconst 1, 1) := by decide +kernel
theorem dX5_dropOldest_20 : decode cX5_dropOldest 20 = .ok (.isub, 1) := by decide +kernel
theorem dX5_dropOldest_21 : decode cX5_dropOldest 21 = .ok (.aload_n 0, 1) := by decide +kernel
theorem dX5_dropOldest_22 : decode cX5_dropOldest 22 = .ok (.getfield 40, 3) := by decide +kernel
theorem dX5_dropOldest_25 : decode cX5_dropOldest 25 = .ok (.iload_n 2, 1) := by decide +kernel
theorem dX5_dropOldest_26 : decode cX5_dropOldest 26 = .ok (.aaload, 1) := by decide +kernel
theorem dX5_dropOldest_27 : decode cX5_dropOldest 27 = .ok (.aastore, 1) := by decide +kernel
theorem dX5_dropOldest_28 : decode cX5_dropOldest 28 = .ok (.iinc 2 1, 3) := by decide +kernel
theorem dX5_dropOldest_31 : decode cX5_dropOldest 31 = .ok (.goto (-22), 3) := by decide +kernel
theorem dX5_dropOldest_34 : decode cX5_dropOldest 34 = .ok (.aload_n 0, 1) := by decide +kernel
theorem dX5_dropOldest_35 : decode cX5_dropOldest 35 = .ok (.getfield 40, 3) := by decide +kernel
theorem dX5_dropOldest_38 : decode cX5_dropOldest 38 = .ok (.iconst 3, 1) := by decide +kernel
theorem dX5_dropOldest_39 : decode cX5_dropOldest 39 = .ok (.aload_n 1, 1) := by decide +kernel
theorem dX5_dropOldest_40 : decode cX5_dropOldest 40 = .ok (.aastore, 1) := by decide +kernel
theorem dX5_dropOldest_41 : decode cX5_dropOldest 41 = .ok (.aload_n 0, 1) := by decide +kernel
theorem dX5_dropOldest_42 : decode cX5_dropOldest 42 = .ok (.iconst 3, 1) := by decide +kernel
theorem dX5_dropOldest_43 : decode cX5_dropOldest 43 = .ok (.putfield 262, 3) := by decide +kernel
theorem dX5_dropOldest_46 : decode cX5_dropOldest 46 = .ok (.return_, 1) := by decide +kernel
