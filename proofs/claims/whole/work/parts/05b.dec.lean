/-! decode rows -/
theorem dX6_init_0 : decode cX6_init 0 = .ok (.aload_n 0, 1) := by decide +kernel
theorem dX6_init_1 : decode cX6_init 1 = .ok (.invokespecial 1, 3) := by decide +kernel
theorem dX6_init_4 : decode cX6_init 4 = .ok (.aload_n 0, 1) := by decide +kernel
theorem dX6_init_5 : decode cX6_init 5 = .ok (.sipush 325, 3) := by decide +kernel
theorem dX6_init_8 : decode cX6_init 8 = .ok (.newarray .int, 2) := by decide +kernel
theorem dX6_init_10 : decode cX6_init 10 = .ok (.putfield 7, 3) := by decide +kernel
theorem dX6_init_13 : decode cX6_init 13 = .ok (.aload_n 0, 1) := by decide +kernel
theorem dX6_init_14 : decode cX6_init 14 = .ok (.sipush 325, 3) := by decide +kernel
theorem dX6_init_17 : decode cX6_init 17 = .ok (.newarray .int, 2) := by decide +kernel
theorem dX6_init_19 : decode cX6_init 19 = .ok (.putfield 13, 3) := by decide +kernel
theorem dX6_init_22 : decode cX6_init 22 = .ok (.aload_n 0, 1) := by decide +kernel
theorem dX6_init_23 : decode cX6_init 23 = .ok (.sipush 1300, 3) := by decide +kernel
theorem dX6_init_26 : decode cX6_init 26 = .ok (.newarray .int, 2) := by decide +kernel
theorem dX6_init_28 : decode cX6_init 28 = .ok (.putfield 16, 3) := by decide +kernel
theorem dX6_init_31 : decode cX6_init 31 = .ok (.aload_n 0, 1) := by decide +kernel
theorem dX6_init_32 : decode cX6_init 32 = .ok (.bipush 100, 2) := by decide +kernel
theorem dX6_init_34 : decode cX6_init 34 = .ok (.newarray .int, 2) := by decide +kernel
theorem dX6_init_36 : decode cX6_init 36 = .ok (.putfield 19, 3) := by decide +kernel
theorem dX6_init_39 : decode cX6_init 39 = .ok (.aload_n 0, 1) := by decide +kernel
theorem dX6_init_40 : decode cX6_init 40 = .ok (.bipush 49, 2) := by decide +kernel
theorem dX6_init_42 : decode cX6_init 42 = .ok (.newarray .int, 2) := by decide +kernel
theorem dX6_init_44 : decode cX6_init 44 = .ok (.putfield 22, 3) := by decide +kernel
theorem dX6_init_47 : decode cX6_init 47 = .ok (.aload_n 0, 1) := by decide +kernel
theorem dX6_init_48 : decode cX6_init 48 = .ok (.sipush 490, 3) := by decide +kernel
theorem dX6_init_51 : decode cX6_init 51 = .ok (.newarray .int, 2) := by decide +kernel
theorem dX6_init_53 : decode cX6_init 53 = .ok (.putfield 25, 3) := by decide +kernel
theorem dX6_init_56 : decode cX6_init 56 = .ok (.aload_n 0, 1) := by decide +kernel
theorem dX6_init_57 : decode cX6_init 57 = .ok (.bipush 8, 2) := by decide +kernel
theorem dX6_init_59 : decode cX6_init 59 = .ok (.newarray .int, 2) := by decide +kernel
theorem dX6_init_61 : decode cX6_init 61 = .ok (.putfield 28, 3) := by decide +kernel
theorem dX6_init_64 : decode cX6_init 64 = .ok (.aload_n 0, 1) := by decide +kernel
theorem dX6_init_65 : decode cX6_init 65 = .ok (.bipush 9, 2) := by decide +kernel
theorem dX6_init_67 : decode cX6_init 67 = .ok (.newarray .int, 2) := by decide +kernel
theorem dX6_init_69 : decode cX6_init 69 = .ok (.putfield 31, 3) := by decide +kernel
theorem dX6_init_72 : decode cX6_init 72 = .ok (.aload_n 0, 1) := by decide +kernel
theorem dX6_init_73 : decode cX6_init 73 = .ok (.bipush 8, 2) := by decide +kernel
theorem dX6_init_75 : decode cX6_init 75 = .ok (.newarray .int, 2) := by decide +kernel
theorem dX6_init_77 : decode cX6_init 77 = .ok (.putfield 34, 3) := by decide +kernel
theorem dX6_init_80 : decode cX6_init 80 = .ok (.aload_n 0, 1) := by decide +kernel
theorem dX6_init_81 : decode cX6_init 81 = .ok (.bipush 40, 2) := by decide +kernel
theorem dX6_init_83 : decode cX6_init 83 = .ok (.newarray .int, 2) := by decide +kernel
theorem dX6_init_85 : decode cX6_init 85 = .ok (.putfield 37, 3) := by decide +kernel
theorem dX6_init_88 : decode cX6_init 88 = .ok (.aload_n 0, 1) := by decide +kernel
theorem dX6_init_89 : decode cX6_init 89 = .ok (.bipush 7, 2) := by decide +kernel
theorem dX6_init_91 : decode cX6_init 91 = .ok (.newarray .int, 2) := by decide +kernel
theorem dX6_init_93 : decode cX6_init 93 = .ok (.putfield 40, 3) := by decide +kernel
theorem dX6_init_96 : decode cX6_init 96 = .ok (.aload_n 0, 1) := by decide +kernel
theorem dX6_init_97 : decode cX6_init 97 = .ok (.bipush 7, 2) := by decide +kernel
theorem dX6_init_99 : decode cX6_init 99 = .ok (.newarray .int, 2) := by decide +kernel
theorem dX6_init_101 : decode cX6_init 101 = .ok (.putfield 43, 3) := by decide +kernel
theorem dX6_init_104 : decode cX6_init 104 = .ok (.aload_n 0, 1) := by decide +kernel
theorem dX6_init_105 : decode cX6_init 105 = .ok (.bipush 7, 2) := by decide +kernel
theorem dX6_init_107 : decode cX6_init 107 = .ok (.newarray .int, 2) := by decide +kernel
theorem dX6_init_109 : decode cX6_init 109 = .ok (.putfield 46, 3) := by decide +kernel
theorem dX6_init_112 : decode cX6_init 112 = .ok (.aload_n 0, 1) := by decide +kernel
theorem dX6_init_113 : decode cX6_init 113 = .ok (.bipush 50, 2) := by decide +kernel
theorem dX6_init_115 : decode cX6_init 115 = .ok (.newarray .int, 2) := by decide +kernel
theorem dX6_init_117 : decode cX6_init 117 = .ok (.putfield 49, 3) := by decide +kernel
theorem dX6_init_120 : decode cX6_init 120 = .ok (.aload_n 0, 1) := by decide +kernel
theorem dX6_init_121 : decode cX6_init 121 = .ok (.bipush 50, 2) := by decide +kernel
theorem dX6_init_123 : decode cX6_init 123 = .ok (.newarray .int, 2) := by decide +kernel
theorem dX6_init_125 : decode cX6_init 125 = .ok (.putfield 52, 3) := by decide +kernel
theorem dX6_init_128 : decode cX6_init 128 = .ok (.aload_n 0, 1) := by decide +kernel
theorem dX6_init_129 : decode cX6_init 129 = .ok (.bipush 50, 2) := by decide +kernel
theorem dX6_init_131 : decode cX6_init 131 = .ok (.newarray .int, 2) := by decide +kernel
theorem dX6_init_133 : decode cX6_init 133 = .ok (.putfield 55, 3) := by decide +kernel
theorem dX6_init_136 : decode cX6_init 136 = .ok (.aload_n 0, 1) := by decide +kernel
theorem dX6_init_137 : decode cX6_init 137 = .ok (.bipush 50, 2) := by decide +kernel
theorem dX6_init_139 : decode cX6_init 139 = .ok (.newarray .int, 2) := by decide +kernel
theorem dX6_init_141 : decode cX6_init 141 = .ok (.putfield 58, 3) := by decide +kernel
theorem dX6_init_144 : decode cX6_init 144 = .ok (.aload_n 0, 1) := by decide +kernel
theorem dX6_init_145 : decode cX6_init 145 = .ok (.bipush 50, 2) := by decide +kernel
theorem dX6_init_147 : decode cX6_init 147 = .ok (.newarray .int, 2) := by decide +kernel
theorem dX6_init_149 : decode cX6_init 149 = .ok (.putfield 61, 3) := by decide +kernel
theorem dX6_init_152 : decode cX6_init 152 = .ok (.aload_n 0, 1) := by decide +kernel
theorem dX6_init_153 : decode cX6_init 153 = .ok (.getfield 7, 3) := by decide +kernel
theorem dX6_init_156 : decode cX6_init 156 = .ok (.iconst 0, 1) := by decide +kernel
theorem dX6_init_157 : decode cX6_init 157 = .ok (.iconst 4, 1) := by decide +kernel
theorem dX6_init_158 : decode cX6_init 158 = .ok (.iastore, 1) := by decide +kernel
theorem dX6_init_159 : decode cX6_init 159 = .ok (.return_, 1) := by decide +kernel
theorem dX6_thrown_0 : decode cX6_thrown 0 = .ok (.aload_n 0, 1) := by decide +kernel
theorem dX6_thrown_1 : decode cX6_thrown 1 = .ok (.getfield 64, 3) := by decide +kernel
theorem dX6_thrown_4 : decode cX6_thrown 4 = .ok (.ireturn, 1) := by decide +kernel
theorem dX6_in_0 : decode cX6_in 0 = .ok (.iload_n 0, 1) := by decide +kernel
theorem dX6_in_1 : decode cX6_in 1 = .ok (.iload_n 1, 1) := by decide +kernel
theorem dX6_in_2 : decode cX6_in 2 = .ok (.if_icmp .lt 12, 3) := by decide +kernel
theorem dX6_in_5 : decode cX6_in 5 = .ok (.iload_n 0, 1) := by decide +kernel
theorem dX6_in_6 : decode cX6_in 6 = .ok (.iload_n 2, 1) := by decide +kernel
theorem dX6_in_7 : decode cX6_in 7 = .ok (.if_icmp .gt 7, 3) := by decide +kernel
theorem dX6_in_10 : decode cX6_in 10 = .ok (.iconst 1, 1) := by decide +kernel
theorem dX6_in_11 : decode cX6_in 11 = .ok (.goto 4, 3) := by decide +kernel
theorem dX6_in_14 : decode cX6_in 14 = .ok (.iconst 0, 1) := by decide +kernel
theorem dX6_in_15 : decode cX6_in 15 = .ok (.ireturn, 1) := by decide +kernel
theorem dX6_goes_0 : decode cX6_goes 0 = .ok (.aload_n 0, 1) := by decide +kernel
theorem dX6_goes_1 : decode cX6_goes 1 = .ok (.iload_n 1, 1) := by decide +kernel
theorem dX6_goes_2 : decode cX6_goes 2 = .ok (.ifCond .eq 7, 3) := by decide +kernel
theorem dX6_goes_5 : decode cX6_goes 5 = .ok (.iconst 1, 1) := by decide +kernel
theorem dX6_goes_6 : decode cX6_goes 6 = .ok (.goto 20, 3) := by decide +kernel
theorem dX6_goes_9 : decode cX6_goes 9 = .ok (.iload_n 2, 1) := by decide +kernel
theorem dX6_goes_10 : decode cX6_goes 10 = .ok (.ifCond .eq 7, 3) := by decide +kernel
theorem dX6_goes_13 : decode cX6_goes 13 = .ok (.iconst 2, 1) := by decide +kernel
theorem dX6_goes_14 : decode cX6_goes 14 = .ok (.goto 12, 3) := by decide +kernel
theorem dX6_goes_17 : decode cX6_goes 17 = .ok (.iload_n 3, 1) := by decide +kernel
theorem dX6_goes_18 : decode cX6_goes 18 = .ok (.ifCond .eq 7, 3) := by decide +kernel
theorem dX6_goes_21 : decode cX6_goes 21 = .ok (.iconst 3, 1) := by decide +kernel
theorem dX6_goes_22 : decode cX6_goes 22 = .ok (.goto 4, 3) := by decide +kernel
theorem dX6_goes_25 : decode cX6_goes 25 = .ok (.iconst 0, 1) := by decide +kernel
theorem dX6_goes_26 : decode cX6_goes 26 = .ok (.putfield 64, 3) := by decide +kernel
theorem dX6_goes_29 : decode cX6_goes 29 = .ok (.aload_n 0, 1) := by decide +kernel
theorem dX6_goes_30 : decode cX6_goes 30 = .ok (.getfield 64, 3) := by decide +kernel
theorem dX6_goes_33 : decode cX6_goes 33 = .ok (.ifCond .ne 7, 3) := by decide +kernel
theorem dX6_goes_36 : decode cX6_goes 36 = .ok (.iconst 1, 1) := by decide +kernel
theorem dX6_goes_37 : decode cX6_goes 37 = .ok (.goto 4, 3) := by decide +kernel
theorem dX6_goes_40 : decode cX6_goes 40 = .ok (.iconst 0, 1) := by decide +kernel
theorem dX6_goes_41 : decode cX6_goes 41 = .ok (.ireturn, 1) := by decide +kernel
theorem dX6_p_0 : decode cX6_p 0 = .ok (.iconst 5, 1) := by decide +kernel
theorem dX6_p_1 : decode cX6_p 1 = .ok (.bipush 8, 2) := by decide +kernel
theorem dX6_p_3 : decode cX6_p 3 = .ok (.iload_n 0, 1) := by decide +kernel
theorem dX6_p_4 : decode cX6_p 4 = .ok (.imul, 1) := by decide +kernel
theorem dX6_p_5 : decode cX6_p 5 = .ok (.iadd, 1) := by decide +kernel
theorem dX6_p_6 : decode cX6_p 6 = .ok (.iload_n 1, 1) := by decide +kernel
theorem dX6_p_7 : decode cX6_p 7 = .ok (.iadd, 1) := by decide +kernel
theorem dX6_p_8 : decode cX6_p 8 = .ok (.ireturn, 1) := by decide +kernel
theorem dX6_least_0 : decode cX6_least 0 = .ok (.iload_n 0, 1) := by decide +kernel
theorem dX6_least_1 : decode cX6_least 1 = .ok (.iload_n 1, 1) := by decide +kernel
theorem dX6_least_2 : decode cX6_least 2 = .ok (.if_icmp .ge 7, 3) := by decide +kernel
theorem dX6_least_5 : decode cX6_least 5 = .ok (.iload_n 0, 1) := by decide +kernel
theorem dX6_least_6 : decode cX6_least 6 = .ok (.goto 4, 3) := by decide +kernel
theorem dX6_least_9 : decode cX6_least 9 = .ok (.iload_n 1, 1) := by decide +kernel
theorem dX6_least_10 : decode cX6_least 10 = .ok (.ireturn, 1) := by decide +kernel
theorem dX6_isParty_0 : decode cX6_isParty 0 = .ok (.iload_n 1, 1) := by decide +kernel
theorem dX6_isParty_1 : decode cX6_isParty 1 = .ok (.iconst 0, 1) := by decide +kernel
theorem dX6_isParty_2 : decode cX6_isParty 2 = .ok (.aload_n 0, 1) := by decide +kernel
theorem dX6_isParty_3 : decode cX6_isParty 3 = .ok (.getfield 7, 3) := by decide +kernel
theorem dX6_isParty_6 : decode cX6_isParty 6 = .ok (.iconst 0, 1) := by decide +kernel
theorem dX6_isParty_7 : decode cX6_isParty 7 = .ok (.iaload, 1) := by decide +kernel
theorem dX6_isParty_8 : decode cX6_isParty 8 = .ok (.iconst 1, 1) := by decide +kernel
theorem dX6_isParty_9 : decode cX6_isParty 9 = .ok (.isub, 1) := by decide +kernel
theorem dX6_isParty_10 : decode cX6_isParty 10 = .ok (.invokestatic 68, 3) := by decide +kernel
theorem dX6_isParty_13 : decode cX6_isParty 13 = .ok (.ireturn, 1) := by decide +kernel
theorem dX6_isPromise_0 : decode cX6_isPromise 0 = .ok (.iload_n 1, 1) := by decide +kernel
theorem dX6_isPromise_1 : decode cX6_isPromise 1 = .ok (.iconst 0, 1) := by decide +kernel
theorem dX6_isPromise_2 : decode cX6_isPromise 2 = .ok (.aload_n 0, 1) := by decide +kernel
theorem dX6_isPromise_3 : decode cX6_isPromise 3 = .ok (.getfield 7, 3) := by decide +kernel
theorem dX6_isPromise_6 : decode cX6_isPromise 6 = .ok (.iconst 1, 1) := by decide +kernel
theorem dX6_isPromise_7 : decode cX6_isPromise 7 = .ok (.iaload, 1) := by decide +kernel
theorem dX6_isPromise_8 : decode cX6_isPromise 8 = .ok (.iconst 1, 1) := by decide +kernel
theorem dX6_isPromise_9 : decode cX6_isPromise 9 = .ok (.isub, 1) := by decide +kernel
theorem dX6_isPromise_10 : decode cX6_isPromise 10 = .ok (.invokestatic 68, 3) := by decide +kernel
theorem dX6_isPromise_13 : decode cX6_isPromise 13 = .ok (.ireturn, 1) := by decide +kernel
theorem dX6_copies_0 : decode cX6_copies 0 = .ok (.iconst 0, 1) := by decide +kernel
theorem dX6_copies_1 : decode cX6_copies 1 = .ok (.istore 4, 2) := by decide +kernel
theorem dX6_copies_3 : decode cX6_copies 3 = .ok (.iload 4, 2) := by decide +kernel
theorem dX6_copies_5 : decode cX6_copies 5 = .ok (.sipush 325, 3) := by decide +kernel
theorem dX6_copies_8 : decode cX6_copies 8 = .ok (.if_icmp .ge 21, 3) := by decide +kernel
theorem dX6_copies_11 : decode cX6_copies 11 = .ok (.aload_n 2, 1) := by decide +kernel
theorem dX6_copies_12 : decode cX6_copies 12 = .ok (.iload_n 3, 1) := by decide +kernel
theorem dX6_copies_13 : decode cX6_copies 13 = .ok (.iload 4, 2) := by decide +kernel
theorem dX6_copies_15 : decode cX6_copies 15 = .ok (.iadd, 1) := by decide +kernel
theorem dX6_copies_16 : decode cX6_copies 16 = .ok (.aload_n 0, 1) := by decide +kernel
theorem dX6_copies_17 : decode cX6_copies 17 = .ok (.iload_n 1, 1) := by decide +kernel
theorem dX6_copies_18 : decode cX6_copies 18 = .ok (.iload 4, 2) := by decide +kernel
theorem dX6_copies_20 : decode cX6_copies 20 = .ok (.iadd, 1) := by decide +kernel
theorem dX6_copies_21 : decode cX6_copies 21 = .ok (.iaload, 1) := by decide +kernel
theorem dX6_copies_22 : decode cX6_copies 22 = .ok (.iastore, 1) := by decide +kernel
theorem dX6_copies_23 : decode cX6_copies 23 = .ok (.iinc 4 1, 3) := by decide +kernel
theorem dX6_copies_26 : decode cX6_copies 26 = .ok (.goto (-23), 3) := by decide +kernel
theorem dX6_copies_29 : decode cX6_copies 29 = .ok (.return_, 1) := by decide +kernel
theorem dX6_saves_0 : decode cX6_saves 0 = .ok (.aload_n 0, 1) := by decide +kernel
theorem dX6_saves_1 : decode cX6_saves 1 = .ok (.getfield 72, 3) := by decide +kernel
theorem dX6_saves_4 : decode cX6_saves 4 = .ok (.iconst 4, 1) := by decide +kernel
theorem dX6_saves_5 : decode cX6_saves 5 = .ok (.if_icmp .ne 44, 3) := by decide +kernel
theorem dX6_saves_8 : decode cX6_saves 8 = .ok (.iconst 0, 1) := by decide +kernel
theorem dX6_saves_9 : decode cX6_saves 9 = .ok (.istore_n 1, 1) := by decide +kernel
theorem dX6_saves_10 : decode cX6_saves 10 = .ok (.iload_n 1, 1) := by decide +kernel
theorem dX6_saves_11 : decode cX6_saves 11 = .ok (.sipush 975, 3) := by decide +kernel
theorem dX6_saves_14 : decode cX6_saves 14 = .ok (.if_icmp .ge 25, 3) := by decide +kernel
theorem dX6_saves_17 : decode cX6_saves 17 = .ok (.aload_n 0, 1) := by decide +kernel
theorem dX6_saves_18 : decode cX6_saves 18 = .ok (.getfield 16, 3) := by decide +kernel
theorem dX6_saves_21 : decode cX6_saves 21 = .ok (.iload_n 1, 1) := by decide +kernel
theorem dX6_saves_22 : decode cX6_saves 22 = .ok (.aload_n 0, 1) := by decide +kernel
theorem dX6_saves_23 : decode cX6_saves 23 = .ok (.getfield 16, 3) := by decide +kernel
theorem dX6_saves_26 : decode cX6_saves 26 = .ok (.iload_n 1, 1) := by decide +kernel
theorem dX6_saves_27 : decode cX6_saves 27 = .ok (.sipush 325, 3) := by decide +kernel
theorem dX6_saves_30 : decode cX6_saves 30 = .ok (.iadd, 1) := by decide +kernel
theorem dX6_saves_31 : decode cX6_saves 31 = .ok (.iaload, 1) := by decide +kernel
theorem dX6_saves_32 : decode cX6_saves 32 = .ok (.iastore, 1) := by decide +kernel
theorem dX6_saves_33 : decode cX6_saves 33 = .ok (.iinc 1 1, 3) := by decide +kernel
theorem dX6_saves_36 : decode cX6_saves 36 = .ok (.goto (-26), 3) := by decide +kernel
theorem dX6_saves_39 : decode cX6_saves 39 = .ok (.aload_n 0, 1) := by decide +kernel
theorem dX6_saves_40 : decode cX6_saves 40 = .ok (.dup, 1) := by decide +kernel
theorem dX6_saves_41 : decode cX6_saves 41 = .ok (.getfield 72, 3) := by decide +kernel
theorem dX6_saves_44 : decode cX6_saves 44 = .ok (.iconst 1, 1) := by decide +kernel
theorem dX6_saves_45 : decode cX6_saves 45 = .ok (.isub, 1) := by decide +kernel
theorem dX6_saves_46 : decode cX6_saves 46 = .ok (.putfield 72, 3) := by decide +kernel
theorem dX6_saves_49 : decode cX6_saves 49 = .ok (.aload_n 0, 1) := by decide +kernel
theorem dX6_saves_50 : decode cX6_saves 50 = .ok (.getfield 7, 3) := by decide +kernel
theorem dX6_saves_53 : decode cX6_saves 53 = .ok (.iconst 0, 1) := by decide +kernel
theorem dX6_saves_54 : decode cX6_saves 54 = .ok (.aload_n 0, 1) := by decide +kernel
theorem dX6_saves_55 : decode cX6_saves 55 = .ok (.getfield 16, 3) := by decide +kernel
theorem dX6_saves_58 : decode cX6_saves 58 = .ok (.sipush 325, 3) := by decide +kernel
theorem dX6_saves_61 : decode cX6_saves 61 = .ok (.aload_n 0, 1) := by decide +kernel
theorem dX6_saves_62 : decode cX6_saves 62 = .ok (.getfield 72, 3) := by decide +kernel
theorem dX6_saves_65 : decode cX6_saves 65 = .ok (.imul, 1) := by decide +kernel
theorem dX6_saves_66 : decode cX6_saves 66 = .ok (.invokestatic 75, 3) := by decide +kernel
theorem dX6_saves_69 : decode cX6_saves 69 = .ok (.aload_n 0, 1) := by decide +kernel
theorem dX6_saves_70 : decode cX6_saves 70 = .ok (.dup, 1) := by decide +kernel
theorem dX6_saves_71 : decode cX6_saves 71 = .ok (.getfield 72, 3) := by decide +kernel
theorem dX6_saves_74 : decode cX6_saves 74 = .ok (.iconst 1, 1) := by decide +kernel
theorem dX6_saves_75 : decode cX6_saves 75 = .ok (.iadd, 1) := by decide +kernel
theorem dX6_saves_76 : decode cX6_saves 76 = .ok (.putfield 72, 3) := by decide +kernel
theorem dX6_saves_79 : decode cX6_saves 79 = .ok (.return_, 1) := by decide +kernel
theorem dX6_begins_0 : decode cX6_begins 0 = .ok (.iconst 0, 1) := by decide +kernel
theorem dX6_begins_1 : decode cX6_begins 1 = .ok (.istore_n 3, 1) := by decide +kernel
theorem dX6_begins_2 : decode cX6_begins 2 = .ok (.iload_n 3, 1) := by decide +kernel
theorem dX6_begins_3 : decode cX6_begins 3 = .ok (.sipush 490, 3) := by decide +kernel
theorem dX6_begins_6 : decode cX6_begins 6 = .ok (.if_icmp .ge 26, 3) := by decide +kernel
theorem dX6_begins_9 : decode cX6_begins 9 = .ok (.aload_n 0, 1) := by decide +kernel
theorem dX6_begins_10 : decode cX6_begins 10 = .ok (.getfield 22, 3) := by decide +kernel
theorem dX6_begins_13 : decode cX6_begins 13 = .ok (.iload_n 3, 1) := by decide +kernel
theorem dX6_begins_14 : decode cX6_begins 14 = .ok (.bipush 10, 2) := by decide +kernel
theorem dX6_begins_16 : decode cX6_begins 16 = .ok (.idiv, 1) := by decide +kernel
theorem dX6_begins_17 : decode cX6_begins 17 = .ok (.iconst 0, 1) := by decide +kernel
theorem dX6_begins_18 : decode cX6_begins 18 = .ok (.iastore, 1) := by decide +kernel
theorem dX6_begins_19 : decode cX6_begins 19 = .ok (.aload_n 0, 1) := by decide +kernel
theorem dX6_begins_20 : decode cX6_begins 20 = .ok (.getfield 25, 3) := by decide +kernel
theorem dX6_begins_23 : decode cX6_begins 23 = .ok (.iload_n 3, 1) := by decide +kernel
theorem dX6_begins_24 : decode cX6_begins 24 = .ok (.iconst 0, 1) := by decide +kernel
theorem dX6_begins_25 : decode cX6_begins 25 = .ok (.iastore, 1) := by decide +kernel
theorem dX6_begins_26 : decode cX6_begins 26 = .ok (.iinc 3 1, 3) := by decide +kernel
theorem dX6_begins_29 : decode cX6_begins 29 = .ok (.goto (-27), 3) := by decide +kernel
theorem dX6_begins_32 : decode cX6_begins 32 = .ok (.iconst 0, 1) := by decide +kernel
theorem dX6_begins_33 : decode cX6_begins 33 = .ok (.istore_n 3, 1) := by decide +kernel
theorem dX6_begins_34 : decode cX6_begins 34 = .ok (.iload_n 3, 1) := by decide +kernel
theorem dX6_begins_35 : decode cX6_begins 35 = .ok (.aload_n 1, 1) := by decide +kernel
theorem dX6_begins_36 : decode cX6_begins 36 = .ok (.iconst 1, 1) := by decide +kernel
theorem dX6_begins_37 : decode cX6_begins 37 = .ok (.iaload, 1) := by decide +kernel
theorem dX6_begins_38 : decode cX6_begins 38 = .ok (.if_icmp .ge 89, 3) := by decide +kernel
theorem dX6_begins_41 : decode cX6_begins 41 = .ok (.iload_n 3, 1) := by decide +kernel
theorem dX6_begins_42 : decode cX6_begins 42 = .ok (.iload_n 2, 1) := by decide +kernel
theorem dX6_begins_43 : decode cX6_begins 43 = .ok (.if_icmp .eq 78, 3) := by decide +kernel
theorem dX6_begins_46 : decode cX6_begins 46 = .ok (.aload_n 1, 1) := by decide +kernel
theorem dX6_begins_47 : decode cX6_begins 47 = .ok (.iload_n 3, 1) := by decide +kernel
theorem dX6_begins_48 : decode cX6_begins 48 = .ok (.iconst 4, 1) := by decide +kernel
theorem dX6_begins_49 : decode cX6_begins 49 = .ok (.invokestatic 79, 3) := by decide +kernel
theorem dX6_begins_52 : decode cX6_begins 52 = .ok (.iaload, 1) := by decide +kernel
theorem dX6_begins_53 : decode cX6_begins 53 = .ok (.ifCond .ne 68, 3) := by decide +kernel
theorem dX6_begins_56 : decode cX6_begins 56 = .ok (.bipush 7, 2) := by decide +kernel
theorem dX6_begins_58 : decode cX6_begins 58 = .ok (.aload_n 1, 1) := by decide +kernel
theorem dX6_begins_59 : decode cX6_begins 59 = .ok (.iload_n 3, 1) := by decide +kernel
theorem dX6_begins_60 : decode cX6_begins 60 = .ok (.iconst 0, 1) := by decide +kernel
theorem dX6_begins_61 : decode cX6_begins 61 = .ok (.invokestatic 79, 3) := by decide +kernel
theorem dX6_begins_64 : decode cX6_begins 64 = .ok (.iaload, 1) := by decide +kernel
theorem dX6_begins_65 : decode cX6_begins 65 = .ok (.imul, 1) := by decide +kernel
theorem dX6_begins_66 : decode cX6_begins 66 = .ok (.aload_n 1, 1) := by decide +kernel
theorem dX6_begins_67 : decode cX6_begins 67 = .ok (.iload_n 3, 1) := by decide +kernel
theorem dX6_begins_68 : decode cX6_begins 68 = .ok (.iconst 1, 1) := by decide +kernel
theorem dX6_begins_69 : decode cX6_begins 69 = .ok (.invokestatic 79, 3) := by decide +kernel
theorem dX6_begins_72 : decode cX6_begins 72 = .ok (.iaload, 1) := by decide +kernel
theorem dX6_begins_73 : decode cX6_begins 73 = .ok (.iadd, 1) := by decide +kernel
theorem dX6_begins_74 : decode cX6_begins 74 = .ok (.istore 4, 2) := by decide +kernel
theorem dX6_begins_76 : decode cX6_begins 76 = .ok (.aload_n 0, 1) := by decide +kernel
theorem dX6_begins_77 : decode cX6_begins 77 = .ok (.getfield 22, 3) := by decide +kernel
theorem dX6_begins_80 : decode cX6_begins 80 = .ok (.iload 4, 2) := by decide +kernel
theorem dX6_begins_82 : decode cX6_begins 82 = .ok (.dup2, 1) := by decide +kernel
theorem dX6_begins_83 : decode cX6_begins 83 = .ok (.iaload, 1) := by decide +kernel
theorem dX6_begins_84 : decode cX6_begins 84 = .ok (.aload_n 1, 1) := by decide +kernel
theorem dX6_begins_85 : decode cX6_begins 85 = .ok (.iload_n 3, 1) := by decide +kernel
theorem dX6_begins_86 : decode cX6_begins 86 = .ok (.iconst 2, 1) := by decide +kernel
theorem dX6_begins_87 : decode cX6_begins 87 = .ok (.invokestatic 79, 3) := by decide +kernel
theorem dX6_begins_90 : decode cX6_begins 90 = .ok (.iaload, 1) := by decide +kernel
theorem dX6_begins_91 : decode cX6_begins 91 = .ok (.iadd, 1) := by decide +kernel
theorem dX6_begins_92 : decode cX6_begins 92 = .ok (.iastore, 1) := by decide +kernel
theorem dX6_begins_93 : decode cX6_begins 93 = .ok (.aload_n 0, 1) := by decide +kernel
theorem dX6_begins_94 : decode cX6_begins 94 = .ok (.getfield 25, 3) := by decide +kernel
theorem dX6_begins_97 : decode cX6_begins 97 = .ok (.bipush 10, 2) := by decide +kernel
theorem dX6_begins_99 : decode cX6_begins 99 = .ok (.iload 4, 2) := by decide +kernel
theorem dX6_begins_101 : decode cX6_begins 101 = .ok (.imul, 1) := by decide +kernel
theorem dX6_begins_102 : decode cX6_begins 102 = .ok (.aload_n 1, 1) := by decide +kernel
theorem dX6_begins_103 : decode cX6_begins 103 = .ok (.iload_n 3, 1) := by decide +kernel
theorem dX6_begins_104 : decode cX6_begins 104 = .ok (.iconst 3, 1) := by decide +kernel
theorem dX6_begins_105 : decode cX6_begins 105 = .ok (.invokestatic 79, 3) := by decide +kernel
theorem dX6_begins_108 : decode cX6_begins 108 = .ok (.iaload, 1) := by decide +kernel
theorem dX6_begins_109 : decode cX6_begins 109 = .ok (.iadd, 1) := by decide +kernel
theorem dX6_begins_110 : decode cX6_begins 110 = .ok (.dup2, 1) := by decide +kernel
theorem dX6_begins_111 : decode cX6_begins 111 = .ok (.iaload, 1) := by decide +kernel
theorem dX6_begins_112 : decode cX6_begins 112 = .ok (.aload_n 1, 1) := by decide +kernel
theorem dX6_begins_113 : decode cX6_begins 113 = .ok (.iload_n 3, 1) := by decide +kernel
theorem dX6_begins_114 : decode cX6_begins 114 = .ok (.iconst 2, 1) := by decide +kernel
theorem dX6_begins_115 : decode cX6_begins 115 = .ok (.invokestatic 79, 3) := by decide +kernel
theorem dX6_begins_118 : decode cX6_begins 118 = .ok (.iaload, 1) := by decide +kernel
theorem dX6_begins_119 : decode cX6_begins 119 = .ok (.iadd, 1) := by decide +kernel
theorem dX6_begins_120 : decode cX6_begins 120 = .ok (.iastore, 1) := by decide +kernel
theorem dX6_begins_121 : decode cX6_begins 121 = .ok (.iinc 3 1, 3) := by decide +kernel
theorem dX6_begins_124 : decode cX6_begins 124 = .ok (.goto (-90), 3) := by decide +kernel
theorem dX6_begins_127 : decode cX6_begins 127 = .ok (.aload_n 0, 1) := by decide +kernel
theorem dX6_begins_128 : decode cX6_begins 128 = .ok (.aload_n 1, 1) := by decide +kernel
theorem dX6_begins_129 : decode cX6_begins 129 = .ok (.iconst 0, 1) := by decide +kernel
theorem dX6_begins_130 : decode cX6_begins 130 = .ok (.iaload, 1) := by decide +kernel
theorem dX6_begins_131 : decode cX6_begins 131 = .ok (.putfield 83, 3) := by decide +kernel
theorem dX6_begins_134 : decode cX6_begins 134 = .ok (.aload_n 0, 1) := by decide +kernel
theorem dX6_begins_135 : decode cX6_begins 135 = .ok (.iconst 0, 1) := by decide +kernel
theorem dX6_begins_136 : decode cX6_begins 136 = .ok (.putfield 86, 3) := by decide +kernel
theorem dX6_begins_139 : decode cX6_begins 139 = .ok (.aload_n 0, 1) := by decide +kernel
theorem dX6_begins_140 : decode cX6_begins 140 = .ok (.getfield 31, 3) := by decide +kernel
theorem dX6_begins_143 : decode cX6_begins 143 = .ok (.iconst 0, 1) := by decide +kernel
theorem dX6_begins_144 : decode cX6_begins 144 = .ok (.iconst 0, 1) := by decide +kernel
theorem dX6_begins_145 : decode cX6_begins 145 = .ok (.iastore, 1) := by decide +kernel
theorem dX6_begins_146 : decode cX6_begins 146 = .ok (.return_, 1) := by decide +kernel
theorem dX6_isInRow_0 : decode cX6_isInRow 0 = .ok (.iconst 0, 1) := by decide +kernel
theorem dX6_isInRow_1 : decode cX6_isInRow 1 = .ok (.istore_n 2, 1) := by decide +kernel
theorem dX6_isInRow_2 : decode cX6_isInRow 2 = .ok (.iload_n 2, 1) := by decide +kernel
theorem dX6_isInRow_3 : decode cX6_isInRow 3 = .ok (.aload_n 0, 1) := by decide +kernel
theorem dX6_isInRow_4 : decode cX6_isInRow 4 = .ok (.getfield 86, 3) := by decide +kernel
theorem dX6_isInRow_7 : decode cX6_isInRow 7 = .ok (.if_icmp .ge 21, 3) := by decide +kernel
theorem dX6_isInRow_10 : decode cX6_isInRow 10 = .ok (.aload_n 0, 1) := by decide +kernel
theorem dX6_isInRow_11 : decode cX6_isInRow 11 = .ok (.getfield 28, 3) := by decide +kernel
theorem dX6_isInRow_14 : decode cX6_isInRow 14 = .ok (.iload_n 2, 1) := by decide +kernel
theorem dX6_isInRow_15 : decode cX6_isInRow 15 = .ok (.iaload, 1) := by decide +kernel
theorem dX6_isInRow_16 : decode cX6_isInRow 16 = .ok (.iload_n 1, 1) := by decide +kernel
theorem dX6_isInRow_17 : decode cX6_isInRow 17 = .ok (.if_icmp .ne 5, 3) := by decide +kernel
theorem dX6_isInRow_20 : decode cX6_isInRow 20 = .ok (.iconst 1, 1) := by decide +kernel
theorem dX6_isInRow_21 : decode cX6_isInRow 21 = .ok (.ireturn, 1) := by decide +kernel
theorem dX6_isInRow_22 : decode cX6_isInRow 22 = .ok (.iinc 2 1, 3) := by decide +kernel
theorem dX6_isInRow_25 : decode cX6_isInRow 25 = .ok (.goto (-23), 3) := by decide +kernel
theorem dX6_isInRow_28 : decode cX6_isInRow 28 = .ok (.iconst 0, 1) := by decide +kernel
theorem dX6_isInRow_29 : decode cX6_isInRow 29 = .ok (.ireturn, 1) := by decide +kernel
theorem dX6_canCome_0 : decode cX6_canCome 0 = .ok (.aload_n 0, 1) := by decide +kernel
theorem dX6_canCome_1 : decode cX6_canCome 1 = .ok (.getfield 86, 3) := by decide +kernel
theorem dX6_canCome_4 : decode cX6_canCome 4 = .ok (.ifCond .eq 45, 3) := by decide +kernel
theorem dX6_canCome_7 : decode cX6_canCome 7 = .ok (.iload_n 1, 1) := by decide +kernel
theorem dX6_canCome_8 : decode cX6_canCome 8 = .ok (.aload_n 0, 1) := by decide +kernel
theorem dX6_canCome_9 : decode cX6_canCome 9 = .ok (.getfield 28, 3) := by decide +kernel
theorem dX6_canCome_12 : decode cX6_canCome 12 = .ok (.iconst 0, 1) := by decide +kernel
theorem dX6_canCome_13 : decode cX6_canCome 13 = .ok (.iaload, 1) := by decide +kernel
theorem dX6_canCome_14 : decode cX6_canCome 14 = .ok (.if_icmp .le 39, 3) := by decide +kernel
theorem dX6_canCome_17 : decode cX6_canCome 17 = .ok (.aload_n 0, 1) := by decide +kernel
theorem dX6_canCome_18 : decode cX6_canCome 18 = .ok (.iload_n 1, 1) := by decide +kernel
theorem dX6_canCome_19 : decode cX6_canCome 19 = .ok (.invokevirtual 89, 3) := by decide +kernel
theorem dX6_canCome_22 : decode cX6_canCome 22 = .ok (.ifCond .ne 31, 3) := by decide +kernel
theorem dX6_canCome_25 : decode cX6_canCome 25 = .ok (.aload_n 0, 1) := by decide +kernel
theorem dX6_canCome_26 : decode cX6_canCome 26 = .ok (.getfield 22, 3) := by decide +kernel
theorem dX6_canCome_29 : decode cX6_canCome 29 = .ok (.bipush 7, 2) := by decide +kernel
theorem dX6_canCome_31 : decode cX6_canCome 31 = .ok (.aload_n 0, 1) := by decide +kernel
theorem dX6_canCome_32 : decode cX6_canCome 32 = .ok (.getfield 28, 3) := by decide +kernel
theorem dX6_canCome_35 : decode cX6_canCome 35 = .ok (.aload_n 0, 1) := by decide +kernel
theorem dX6_canCome_36 : decode cX6_canCome 36 = .ok (.getfield 86, 3) := by decide +kernel
theorem dX6_canCome_39 : decode cX6_canCome 39 = .ok (.iconst 1, 1) := by decide +kernel
theorem dX6_canCome_40 : decode cX6_canCome 40 = .ok (.isub, 1) := by decide +kernel
theorem dX6_canCome_41 : decode cX6_canCome 41 = .ok (.iaload, 1) := by decide +kernel
theorem dX6_canCome_42 : decode cX6_canCome 42 = .ok (.imul, 1) := by decide +kernel
theorem dX6_canCome_43 : decode cX6_canCome 43 = .ok (.iload_n 1, 1) := by decide +kernel
theorem dX6_canCome_44 : decode cX6_canCome 44 = .ok (.iadd, 1) := by decide +kernel
theorem dX6_canCome_45 : decode cX6_canCome 45 = .ok (.iaload, 1) := by decide +kernel
theorem dX6_canCome_46 : decode cX6_canCome 46 = .ok (.ifCond .le 7, 3) := by decide +kernel
theorem dX6_canCome_49 : decode cX6_canCome 49 = .ok (.iconst 1, 1) := by decide +kernel
theorem dX6_canCome_50 : decode cX6_canCome 50 = .ok (.goto 4, 3) := by decide +kernel
theorem dX6_canCome_53 : decode cX6_canCome 53 = .ok (.iconst 0, 1) := by decide +kernel
theorem dX6_canCome_54 : decode cX6_canCome 54 = .ok (.ireturn, 1) := by decide +kernel
theorem dX6_comes_0 : decode cX6_comes 0 = .ok (.aload_n 0, 1) := by decide +kernel
theorem dX6_comes_1 : decode cX6_comes 1 = .ok (.getfield 86, 3) := by decide +kernel
theorem dX6_comes_4 : decode cX6_comes 4 = .ok (.ifCond .gt 16, 3) := by decide +kernel
theorem dX6_comes_7 : decode cX6_comes 7 = .ok (.aload_n 0, 1) := by decide +kernel
theorem dX6_comes_8 : decode cX6_comes 8 = .ok (.getfield 31, 3) := by decide +kernel
theorem dX6_comes_11 : decode cX6_comes 11 = .ok (.iconst 0, 1) := by decide +kernel
theorem dX6_comes_12 : decode cX6_comes 12 = .ok (.iaload, 1) := by decide +kernel
theorem dX6_comes_13 : decode cX6_comes 13 = .ok (.aload_n 0, 1) := by decide +kernel
theorem dX6_comes_14 : decode cX6_comes 14 = .ok (.getfield 83, 3) := by decide +kernel
theorem dX6_comes_17 : decode cX6_comes 17 = .ok (.if_icmp .ge 120, 3) := by decide +kernel
theorem dX6_comes_20 : decode cX6_comes 20 = .ok (.aload_n 0, 1) := by decide +kernel
theorem dX6_comes_21 : decode cX6_comes 21 = .ok (.getfield 31, 3) := by decide +kernel
theorem dX6_comes_24 : decode cX6_comes 24 = .ok (.aload_n 0, 1) := by decide +kernel
theorem dX6_comes_25 : decode cX6_comes 25 = .ok (.getfield 86, 3) := by decide +kernel
theorem dX6_comes_28 : decode cX6_comes 28 = .ok (.iaload, 1) := by decide +kernel
theorem dX6_comes_29 : decode cX6_comes 29 = .ok (.istore_n 1, 1) := by decide +kernel
theorem dX6_comes_30 : decode cX6_comes 30 = .ok (.iload_n 1, 1) := by decide +kernel
theorem dX6_comes_31 : decode cX6_comes 31 = .ok (.aload_n 0, 1) := by decide +kernel
theorem dX6_comes_32 : decode cX6_comes 32 = .ok (.getfield 83, 3) := by decide +kernel
theorem dX6_comes_35 : decode cX6_comes 35 = .ok (.if_icmp .lt 16, 3) := by decide +kernel
theorem dX6_comes_38 : decode cX6_comes 38 = .ok (.aload_n 0, 1) := by decide +kernel
theorem dX6_comes_39 : decode cX6_comes 39 = .ok (.dup, 1) := by decide +kernel
theorem dX6_comes_40 : decode cX6_comes 40 = .ok (.getfield 86, 3) := by decide +kernel
theorem dX6_comes_43 : decode cX6_comes 43 = .ok (.iconst 1, 1) := by decide +kernel
theorem dX6_comes_44 : decode cX6_comes 44 = .ok (.isub, 1) := by decide +kernel
theorem dX6_comes_45 : decode cX6_comes 45 = .ok (.putfield 86, 3) := by decide +kernel
theorem dX6_comes_48 : decode cX6_comes 48 = .ok (.goto (-48), 3) := by decide +kernel
theorem dX6_comes_51 : decode cX6_comes 51 = .ok (.aload_n 0, 1) := by decide +kernel
theorem dX6_comes_52 : decode cX6_comes 52 = .ok (.getfield 31, 3) := by decide +kernel
theorem dX6_comes_55 : decode cX6_comes 55 = .ok (.aload_n 0, 1) := by decide +kernel
theorem dX6_comes_56 : decode cX6_comes 56 = .ok (.getfield 86, 3) := by decide +kernel
theorem dX6_comes_59 : decode cX6_comes 59 = .ok (.dup2, 1) := by decide +kernel
theorem dX6_comes_60 : decode cX6_comes 60 = .ok (.iaload, 1) := by decide +kernel
theorem dX6_comes_61 : decode cX6_comes 61 = .ok (.iconst 1, 1) := by decide +kernel
theorem dX6_comes_62 : decode cX6_comes 62 = .ok (.iadd, 1) := by decide +kernel
theorem dX6_comes_63 : decode cX6_comes 63 = .ok (.iastore, 1) := by decide +kernel
theorem dX6_comes_64 : decode cX6_comes 64 = .ok (.aload_n 0, 1) := by decide +kernel
theorem dX6_comes_65 : decode cX6_comes 65 = .ok (.iload_n 1, 1) := by decide +kernel
theorem dX6_comes_66 : decode cX6_comes 66 = .ok (.invokevirtual 93, 3) := by decide +kernel
theorem dX6_comes_69 : decode cX6_comes 69 = .ok (.ifCond .ne 6, 3) := by decide +kernel
theorem dX6_comes_72 : decode cX6_comes 72 = .ok (.goto (-72), 3) := by decide +kernel
theorem dX6_comes_75 : decode cX6_comes 75 = .ok (.aload_n 0, 1) := by decide +kernel
theorem dX6_comes_76 : decode cX6_comes 76 = .ok (.getfield 28, 3) := by decide +kernel
theorem dX6_comes_79 : decode cX6_comes 79 = .ok (.aload_n 0, 1) := by decide +kernel
theorem dX6_comes_80 : decode cX6_comes 80 = .ok (.getfield 86, 3) := by decide +kernel
theorem dX6_comes_83 : decode cX6_comes 83 = .ok (.iload_n 1, 1) := by decide +kernel
theorem dX6_comes_84 : decode cX6_comes 84 = .ok (.iastore, 1) := by decide +kernel
theorem dX6_comes_85 : decode cX6_comes 85 = .ok (.aload_n 0, 1) := by decide +kernel
theorem dX6_comes_86 : decode cX6_comes 86 = .ok (.dup, 1) := by decide +kernel
theorem dX6_comes_87 : decode cX6_comes 87 = .ok (.getfield 86, 3) := by decide +kernel
theorem dX6_comes_90 : decode cX6_comes 90 = .ok (.iconst 1, 1) := by decide +kernel
theorem dX6_comes_91 : decode cX6_comes 91 = .ok (.iadd, 1) := by decide +kernel
theorem dX6_comes_92 : decode cX6_comes 92 = .ok (.putfield 86, 3) := by decide +kernel
theorem dX6_comes_95 : decode cX6_comes 95 = .ok (.aload_n 0, 1) := by decide +kernel
theorem dX6_comes_96 : decode cX6_comes 96 = .ok (.getfield 31, 3) := by decide +kernel
theorem dX6_comes_99 : decode cX6_comes 99 = .ok (.aload_n 0, 1) := by decide +kernel
theorem dX6_comes_100 : decode cX6_comes 100 = .ok (.getfield 86, 3) := by decide +kernel
theorem dX6_comes_103 : decode cX6_comes 103 = .ok (.iconst 0, 1) := by decide +kernel
theorem dX6_comes_104 : decode cX6_comes 104 = .ok (.iastore, 1) := by decide +kernel
theorem dX6_comes_105 : decode cX6_comes 105 = .ok (.aload_n 0, 1) := by decide +kernel
theorem dX6_comes_106 : decode cX6_comes 106 = .ok (.getfield 86, 3) := by decide +kernel
theorem dX6_comes_109 : decode cX6_comes 109 = .ok (.iconst 1, 1) := by decide +kernel
theorem dX6_comes_110 : decode cX6_comes 110 = .ok (.if_icmp .le 24, 3) := by decide +kernel
theorem dX6_comes_113 : decode cX6_comes 113 = .ok (.aload_n 0, 1) := by decide +kernel
theorem dX6_comes_114 : decode cX6_comes 114 = .ok (.getfield 22, 3) := by decide +kernel
theorem dX6_comes_117 : decode cX6_comes 117 = .ok (.bipush 7, 2) := by decide +kernel
theorem dX6_comes_119 : decode cX6_comes 119 = .ok (.iload_n 1, 1) := by decide +kernel
theorem dX6_comes_120 : decode cX6_comes 120 = .ok (.imul, 1) := by decide +kernel
theorem dX6_comes_121 : decode cX6_comes 121 = .ok (.aload_n 0, 1) := by decide +kernel
theorem dX6_comes_122 : decode cX6_comes 122 = .ok (.getfield 28, 3) := by decide +kernel
theorem dX6_comes_125 : decode cX6_comes 125 = .ok (.iconst 0, 1) := by decide +kernel
theorem dX6_comes_126 : decode cX6_comes 126 = .ok (.iaload, 1) := by decide +kernel
theorem dX6_comes_127 : decode cX6_comes 127 = .ok (.iadd, 1) := by decide +kernel
theorem dX6_comes_128 : decode cX6_comes 128 = .ok (.iaload, 1) := by decide +kernel
theorem dX6_comes_129 : decode cX6_comes 129 = .ok (.ifCond .le 5, 3) := by decide +kernel
theorem dX6_comes_132 : decode cX6_comes 132 = .ok (.iconst 1, 1) := by decide +kernel
theorem dX6_comes_133 : decode cX6_comes 133 = .ok (.ireturn, 1) := by decide +kernel
theorem dX6_comes_134 : decode cX6_comes 134 = .ok (.goto (-134), 3) := by decide +kernel
theorem dX6_comes_137 : decode cX6_comes 137 = .ok (.iconst 0, 1) := by decide +kernel
theorem dX6_comes_138 : decode cX6_comes 138 = .ok (.ireturn, 1) := by decide +kernel
theorem dX6_countRings_0 : decode cX6_countRings 0 = .ok (.aload_n 0, 1) := by decide +kernel
theorem dX6_countRings_1 : decode cX6_countRings 1 = .ok (.aload_n 1, 1) := by decide +kernel
theorem dX6_countRings_2 : decode cX6_countRings 2 = .ok (.iload_n 2, 1) := by decide +kernel
theorem dX6_countRings_3 : decode cX6_countRings 3 = .ok (.invokevirtual 96, 3) := by decide +kernel
theorem dX6_countRings_6 : decode cX6_countRings 6 = .ok (.iconst 0, 1) := by decide +kernel
theorem dX6_countRings_7 : decode cX6_countRings 7 = .ok (.istore_n 3, 1) := by decide +kernel
theorem dX6_countRings_8 : decode cX6_countRings 8 = .ok (.aload_n 0, 1) := by decide +kernel
theorem dX6_countRings_9 : decode cX6_countRings 9 = .ok (.invokevirtual 100, 3) := by decide +kernel
theorem dX6_countRings_12 : decode cX6_countRings 12 = .ok (.ifCond .eq 9, 3) := by decide +kernel
theorem dX6_countRings_15 : decode cX6_countRings 15 = .ok (.iinc 3 1, 3) := by decide +kernel
theorem dX6_countRings_18 : decode cX6_countRings 18 = .ok (.goto (-10), 3) := by decide +kernel
theorem dX6_countRings_21 : decode cX6_countRings 21 = .ok (.iload_n 3, 1) := by decide +kernel
theorem dX6_countRings_22 : decode cX6_countRings 22 = .ok (.ireturn, 1) := by decide +kernel
theorem dX6_findsRing_0 : decode cX6_findsRing 0 = .ok (.iload_n 1, 1) := by decide +kernel
theorem dX6_findsRing_1 : decode cX6_findsRing 1 = .ok (.ifCond .ge 5, 3) := by decide +kernel
theorem dX6_findsRing_4 : decode cX6_findsRing 4 = .ok (.iconst 0, 1) := by decide +kernel
theorem dX6_findsRing_5 : decode cX6_findsRing 5 = .ok (.ireturn, 1) := by decide +kernel
theorem dX6_findsRing_6 : decode cX6_findsRing 6 = .ok (.aload_n 0, 1) := by decide +kernel
theorem dX6_findsRing_7 : decode cX6_findsRing 7 = .ok (.aload_n 0, 1) := by decide +kernel
theorem dX6_findsRing_8 : decode cX6_findsRing 8 = .ok (.getfield 7, 3) := by decide +kernel
theorem dX6_findsRing_11 : decode cX6_findsRing 11 = .ok (.iconst (-1), 1) := by decide +kernel
theorem dX6_findsRing_12 : decode cX6_findsRing 12 = .ok (.invokevirtual 96, 3) := by decide +kernel
theorem dX6_findsRing_15 : decode cX6_findsRing 15 = .ok (.iconst 0, 1) := by decide +kernel
theorem dX6_findsRing_16 : decode cX6_findsRing 16 = .ok (.istore_n 2, 1) := by decide +kernel
theorem dX6_findsRing_17 : decode cX6_findsRing 17 = .ok (.aload_n 0, 1) := by decide +kernel
theorem dX6_findsRing_18 : decode cX6_findsRing 18 = .ok (.invokevirtual 100, 3) := by decide +kernel
theorem dX6_findsRing_21 : decode cX6_findsRing 21 = .ok (.ifCond .eq 16, 3) := by decide +kernel
theorem dX6_findsRing_24 : decode cX6_findsRing 24 = .ok (.iload_n 2, 1) := by decide +kernel
theorem dX6_findsRing_25 : decode cX6_findsRing 25 = .ok (.iload_n 1, 1) := by decide +kernel
theorem dX6_findsRing_26 : decode cX6_findsRing 26 = .ok (.if_icmp .ne 5, 3) := by decide +kernel
theorem dX6_findsRing_29 : decode cX6_findsRing 29 = .ok (.iconst 1, 1) := by decide +kernel
theorem dX6_findsRing_30 : decode cX6_findsRing 30 = .ok (.ireturn, 1) := by decide +kernel
theorem dX6_findsRing_31 : decode cX6_findsRing 31 = .ok (.iinc 2 1, 3) := by decide +kernel
theorem dX6_findsRing_34 : decode cX6_findsRing 34 = .ok (.goto (-17), 3) := by decide +kernel
theorem dX6_findsRing_37 : decode cX6_findsRing 37 = .ok (.iconst 0, 1) := by decide +kernel
theorem dX6_findsRing_38 : decode cX6_findsRing 38 = .ok (.ireturn, 1) := by decide +kernel
theorem dX6_follower_0 : decode cX6_follower 0 = .ok (.iload_n 1, 1) := by decide +kernel
theorem dX6_follower_1 : decode cX6_follower 1 = .ok (.iconst 1, 1) := by decide +kernel
theorem dX6_follower_2 : decode cX6_follower 2 = .ok (.iadd, 1) := by decide +kernel
theorem dX6_follower_3 : decode cX6_follower 3 = .ok (.aload_n 0, 1) := by decide +kernel
theorem dX6_follower_4 : decode cX6_follower 4 = .ok (.getfield 86, 3) := by decide +kernel
theorem dX6_follower_7 : decode cX6_follower 7 = .ok (.if_icmp .ge 14, 3) := by decide +kernel
theorem dX6_follower_10 : decode cX6_follower 10 = .ok (.aload_n 0, 1) := by decide +kernel
theorem dX6_follower_11 : decode cX6_follower 11 = .ok (.getfield 28, 3) := by decide +kernel
theorem dX6_follower_14 : decode cX6_follower 14 = .ok (.iload_n 1, 1) := by decide +kernel
theorem dX6_follower_15 : decode cX6_follower 15 = .ok (.iconst 1, 1) := by decide +kernel
theorem dX6_follower_16 : decode cX6_follower 16 = .ok (.iadd, 1) := by decide +kernel
theorem dX6_follower_17 : decode cX6_follower 17 = .ok (.iaload, 1) := by decide +kernel
theorem dX6_follower_18 : decode cX6_follower 18 = .ok (.goto 9, 3) := by decide +kernel
theorem dX6_follower_21 : decode cX6_follower 21 = .ok (.aload_n 0, 1) := by decide +kernel
theorem dX6_follower_22 : decode cX6_follower 22 = .ok (.getfield 28, 3) := by decide +kernel
theorem dX6_follower_25 : decode cX6_follower 25 = .ok (.iconst 0, 1) := by decide +kernel
theorem dX6_follower_26 : decode cX6_follower 26 = .ok (.iaload, 1) := by decide +kernel
theorem dX6_follower_27 : decode cX6_follower 27 = .ok (.ireturn, 1) := by decide +kernel
theorem dX6_roomOf_0 : decode cX6_roomOf 0 = .ok (.aload_n 0, 1) := by decide +kernel
theorem dX6_roomOf_1 : decode cX6_roomOf 1 = .ok (.getfield 22, 3) := by decide +kernel
theorem dX6_roomOf_4 : decode cX6_roomOf 4 = .ok (.bipush 7, 2) := by decide +kernel
theorem dX6_roomOf_6 : decode cX6_roomOf 6 = .ok (.aload_n 0, 1) := by decide +kernel
theorem dX6_roomOf_7 : decode cX6_roomOf 7 = .ok (.getfield 28, 3) := by decide +kernel
theorem dX6_roomOf_10 : decode cX6_roomOf 10 = .ok (.aload_n 0, 1) := by decide +kernel
theorem dX6_roomOf_11 : decode cX6_roomOf 11 = .ok (.getfield 86, 3) := by decide +kernel
theorem dX6_roomOf_14 : decode cX6_roomOf 14 = .ok (.iconst 1, 1) := by decide +kernel
theorem dX6_roomOf_15 : decode cX6_roomOf 15 = .ok (.isub, 1) := by decide +kernel
theorem dX6_roomOf_16 : decode cX6_roomOf 16 = .ok (.iaload, 1) := by decide +kernel
theorem dX6_roomOf_17 : decode cX6_roomOf 17 = .ok (.imul, 1) := by decide +kernel
theorem dX6_roomOf_18 : decode cX6_roomOf 18 = .ok (.aload_n 0, 1) := by decide +kernel
theorem dX6_roomOf_19 : decode cX6_roomOf 19 = .ok (.getfield 28, 3) := by decide +kernel
theorem dX6_roomOf_22 : decode cX6_roomOf 22 = .ok (.iconst 0, 1) := by decide +kernel
theorem dX6_roomOf_23 : decode cX6_roomOf 23 = .ok (.iaload, 1) := by decide +kernel
theorem dX6_roomOf_24 : decode cX6_roomOf 24 = .ok (.iadd, 1) := by decide +kernel
theorem dX6_roomOf_25 : decode cX6_roomOf 25 = .ok (.iaload, 1) := by decide +kernel
theorem dX6_roomOf_26 : decode cX6_roomOf 26 = .ok (.istore_n 1, 1) := by decide +kernel
theorem dX6_roomOf_27 : decode cX6_roomOf 27 = .ok (.iconst 0, 1) := by decide +kernel
theorem dX6_roomOf_28 : decode cX6_roomOf 28 = .ok (.istore_n 2, 1) := by decide +kernel
theorem dX6_roomOf_29 : decode cX6_roomOf 29 = .ok (.iload_n 2, 1) := by decide +kernel
theorem dX6_roomOf_30 : decode cX6_roomOf 30 = .ok (.iconst 1, 1) := by decide +kernel
theorem dX6_roomOf_31 : decode cX6_roomOf 31 = .ok (.iadd, 1) := by decide +kernel
theorem dX6_roomOf_32 : decode cX6_roomOf 32 = .ok (.aload_n 0, 1) := by decide +kernel
theorem dX6_roomOf_33 : decode cX6_roomOf 33 = .ok (.getfield 86, 3) := by decide +kernel
theorem dX6_roomOf_36 : decode cX6_roomOf 36 = .ok (.if_icmp .ge 37, 3) := by decide +kernel
theorem dX6_roomOf_39 : decode cX6_roomOf 39 = .ok (.iload_n 1, 1) := by decide +kernel
theorem dX6_roomOf_40 : decode cX6_roomOf 40 = .ok (.aload_n 0, 1) := by decide +kernel
theorem dX6_roomOf_41 : decode cX6_roomOf 41 = .ok (.getfield 22, 3) := by decide +kernel
theorem dX6_roomOf_44 : decode cX6_roomOf 44 = .ok (.bipush 7, 2) := by decide +kernel
theorem dX6_roomOf_46 : decode cX6_roomOf 46 = .ok (.aload_n 0, 1) := by decide +kernel
theorem dX6_roomOf_47 : decode cX6_roomOf 47 = .ok (.getfield 28, 3) := by decide +kernel
theorem dX6_roomOf_50 : decode cX6_roomOf 50 = .ok (.iload_n 2, 1) := by decide +kernel
theorem dX6_roomOf_51 : decode cX6_roomOf 51 = .ok (.iaload, 1) := by decide +kernel
theorem dX6_roomOf_52 : decode cX6_roomOf 52 = .ok (.imul, 1) := by decide +kernel
theorem dX6_roomOf_53 : decode cX6_roomOf 53 = .ok (.aload_n 0, 1) := by decide +kernel
theorem dX6_roomOf_54 : decode cX6_roomOf 54 = .ok (.getfield 28, 3) := by decide +kernel
theorem dX6_roomOf_57 : decode cX6_roomOf 57 = .ok (.iload_n 2, 1) := by decide +kernel
theorem dX6_roomOf_58 : decode cX6_roomOf 58 = .ok (.iconst 1, 1) := by decide +kernel
theorem dX6_roomOf_59 : decode cX6_roomOf 59 = .ok (.iadd, 1) := by decide +kernel
theorem dX6_roomOf_60 : decode cX6_roomOf 60 = .ok (.iaload, 1) := by decide +kernel
theorem dX6_roomOf_61 : decode cX6_roomOf 61 = .ok (.iadd, 1) := by decide +kernel
theorem dX6_roomOf_62 : decode cX6_roomOf 62 = .ok (.iaload, 1) := by decide +kernel
theorem dX6_roomOf_63 : decode cX6_roomOf 63 = .ok (.invokestatic 104, 3) := by decide +kernel
theorem dX6_roomOf_66 : decode cX6_roomOf 66 = .ok (.istore_n 1, 1) := by decide +kernel
theorem dX6_roomOf_67 : decode cX6_roomOf 67 = .ok (.iinc 2 1, 3) := by decide +kernel
theorem dX6_roomOf_70 : decode cX6_roomOf 70 = .ok (.goto (-41), 3) := by decide +kernel
theorem dX6_roomOf_73 : decode cX6_roomOf 73 = .ok (.iload_n 1, 1) := by decide +kernel
theorem dX6_roomOf_74 : decode cX6_roomOf 74 = .ok (.ireturn, 1) := by decide +kernel
theorem dX6_costBy_0 : decode cX6_costBy 0 = .ok (.iload_n 2, 1) := by decide +kernel
theorem dX6_costBy_1 : decode cX6_costBy 1 = .ok (.istore_n 3, 1) := by decide +kernel
theorem dX6_costBy_2 : decode cX6_costBy 2 = .ok (.iconst 0, 1) := by decide +kernel
theorem dX6_costBy_3 : decode cX6_costBy 3 = .ok (.istore 4, 2) := by decide +kernel
theorem dX6_costBy_5 : decode cX6_costBy 5 = .ok (.bipush 9, 2) := by decide +kernel
theorem dX6_costBy_7 : decode cX6_costBy 7 = .ok (.istore 5, 2) := by decide +kernel
theorem dX6_costBy_9 : decode cX6_costBy 9 = .ok (.iload 5, 2) := by decide +kernel
theorem dX6_costBy_11 : decode cX6_costBy 11 = .ok (.ifCond .le 42, 3) := by decide +kernel
theorem dX6_costBy_14 : decode cX6_costBy 14 = .ok (.iload_n 3, 1) := by decide +kernel
theorem dX6_costBy_15 : decode cX6_costBy 15 = .ok (.aload_n 0, 1) := by decide +kernel
theorem dX6_costBy_16 : decode cX6_costBy 16 = .ok (.getfield 25, 3) := by decide +kernel
theorem dX6_costBy_19 : decode cX6_costBy 19 = .ok (.bipush 10, 2) := by decide +kernel
theorem dX6_costBy_21 : decode cX6_costBy 21 = .ok (.iload_n 1, 1) := by decide +kernel
theorem dX6_costBy_22 : decode cX6_costBy 22 = .ok (.imul, 1) := by decide +kernel
theorem dX6_costBy_23 : decode cX6_costBy 23 = .ok (.iload 5, 2) := by decide +kernel
theorem dX6_costBy_25 : decode cX6_costBy 25 = .ok (.iadd, 1) := by decide +kernel
theorem dX6_costBy_26 : decode cX6_costBy 26 = .ok (.iaload, 1) := by decide +kernel
theorem dX6_costBy_27 : decode cX6_costBy 27 = .ok (.invokestatic 104, 3) := by decide +kernel
theorem dX6_costBy_30 : decode cX6_costBy 30 = .ok (.istore 6, 2) := by decide +kernel
theorem dX6_costBy_32 : decode cX6_costBy 32 = .ok (.iload_n 3, 1) := by decide +kernel
theorem dX6_costBy_33 : decode cX6_costBy 33 = .ok (.iload 6, 2) := by decide +kernel
theorem dX6_costBy_35 : decode cX6_costBy 35 = .ok (.isub, 1) := by decide +kernel
theorem dX6_costBy_36 : decode cX6_costBy 36 = .ok (.istore_n 3, 1) := by decide +kernel
theorem dX6_costBy_37 : decode cX6_costBy 37 = .ok (.iload 4, 2) := by decide +kernel
theorem dX6_costBy_39 : decode cX6_costBy 39 = .ok (.iload 6, 2) := by decide +kernel
theorem dX6_costBy_41 : decode cX6_costBy 41 = .ok (.iload 5, 2) := by decide +kernel
theorem dX6_costBy_43 : decode cX6_costBy 43 = .ok (.imul, 1) := by decide +kernel
theorem dX6_costBy_44 : decode cX6_costBy 44 = .ok (.iadd, 1) := by decide +kernel
theorem dX6_costBy_45 : decode cX6_costBy 45 = .ok (.istore 4, 2) := by decide +kernel
theorem dX6_costBy_47 : decode cX6_costBy 47 = .ok (.iinc 5 (-1), 3) := by decide +kernel
theorem dX6_costBy_50 : decode cX6_costBy 50 = .ok (.goto (-41), 3) := by decide +kernel
theorem dX6_costBy_53 : decode cX6_costBy 53 = .ok (.iload 4, 2) := by decide +kernel
theorem dX6_costBy_55 : decode cX6_costBy 55 = .ok (.ireturn, 1) := by decide +kernel
theorem dX6_savingBy_0 : decode cX6_savingBy 0 = .ok (.iconst 0, 1) := by decide +kernel
theorem dX6_savingBy_1 : decode cX6_savingBy 1 = .ok (.istore_n 2, 1) := by decide +kernel
theorem dX6_savingBy_2 : decode cX6_savingBy 2 = .ok (.iconst 0, 1) := by decide +kernel
theorem dX6_savingBy_3 : decode cX6_savingBy 3 = .ok (.istore_n 3, 1) := by decide +kernel
theorem dX6_savingBy_4 : decode cX6_savingBy 4 = .ok (.iload_n 3, 1) := by decide +kernel
theorem dX6_savingBy_5 : decode cX6_savingBy 5 = .ok (.aload_n 0, 1) := by decide +kernel
theorem dX6_savingBy_6 : decode cX6_savingBy 6 = .ok (.getfield 86, 3) := by decide +kernel
theorem dX6_savingBy_9 : decode cX6_savingBy 9 = .ok (.if_icmp .ge 32, 3) := by decide +kernel
theorem dX6_savingBy_12 : decode cX6_savingBy 12 = .ok (.iload_n 2, 1) := by decide +kernel
theorem dX6_savingBy_13 : decode cX6_savingBy 13 = .ok (.aload_n 0, 1) := by decide +kernel
theorem dX6_savingBy_14 : decode cX6_savingBy 14 = .ok (.bipush 7, 2) := by decide +kernel
theorem dX6_savingBy_16 : decode cX6_savingBy 16 = .ok (.aload_n 0, 1) := by decide +kernel
theorem dX6_savingBy_17 : decode cX6_savingBy 17 = .ok (.getfield 28, 3) := by decide +kernel
theorem dX6_savingBy_20 : decode cX6_savingBy 20 = .ok (.iload_n 3, 1) := by decide +kernel
theorem dX6_savingBy_21 : decode cX6_savingBy 21 = .ok (.iaload, 1) := by decide +kernel
theorem dX6_savingBy_22 : decode cX6_savingBy 22 = .ok (.imul, 1) := by decide +kernel
theorem dX6_savingBy_23 : decode cX6_savingBy 23 = .ok (.aload_n 0, 1) := by decide +kernel
theorem dX6_savingBy_24 : decode cX6_savingBy 24 = .ok (.iload_n 3, 1) := by decide +kernel
theorem dX6_savingBy_25 : decode cX6_savingBy 25 = .ok (.invokevirtual 107, 3) := by decide +kernel
theorem dX6_savingBy_28 : decode cX6_savingBy 28 = .ok (.iadd, 1) := by decide +kernel
theorem dX6_savingBy_29 : decode cX6_savingBy 29 = .ok (.iload_n 1, 1) := by decide +kernel
theorem dX6_savingBy_30 : decode cX6_savingBy 30 = .ok (.invokevirtual 111, 3) := by decide +kernel
theorem dX6_savingBy_33 : decode cX6_savingBy 33 = .ok (.iadd, 1) := by decide +kernel
theorem dX6_savingBy_34 : decode cX6_savingBy 34 = .ok (.istore_n 2, 1) := by decide +kernel
theorem dX6_savingBy_35 : decode cX6_savingBy 35 = .ok (.iinc 3 1, 3) := by decide +kernel
theorem dX6_savingBy_38 : decode cX6_savingBy 38 = .ok (.goto (-34), 3) := by decide +kernel
theorem dX6_savingBy_41 : decode cX6_savingBy 41 = .ok (.iload_n 2, 1) := by decide +kernel
theorem dX6_savingBy_42 : decode cX6_savingBy 42 = .ok (.ireturn, 1) := by decide +kernel
theorem dX6_releases_0 : decode cX6_releases 0 = .ok (.iload_n 3, 1) := by decide +kernel
theorem dX6_releases_1 : decode cX6_releases 1 = .ok (.istore 4, 2) := by decide +kernel
theorem dX6_releases_3 : decode cX6_releases 3 = .ok (.bipush 9, 2) := by decide +kernel
theorem dX6_releases_5 : decode cX6_releases 5 = .ok (.istore 5, 2) := by decide +kernel
theorem dX6_releases_7 : decode cX6_releases 7 = .ok (.iload 5, 2) := by decide +kernel
theorem dX6_releases_9 : decode cX6_releases 9 = .ok (.ifCond .le 139, 3) := by decide +kernel
theorem dX6_releases_12 : decode cX6_releases 12 = .ok (.iconst 0, 1) := by decide +kernel
theorem dX6_releases_13 : decode cX6_releases 13 = .ok (.istore 6, 2) := by decide +kernel
theorem dX6_releases_15 : decode cX6_releases 15 = .ok (.iload 6, 2) := by decide +kernel
theorem dX6_releases_17 : decode cX6_releases 17 = .ok (.aload_n 0, 1) := by decide +kernel
theorem dX6_releases_18 : decode cX6_releases 18 = .ok (.iconst 1, 1) := by decide +kernel
theorem dX6_releases_19 : decode cX6_releases 19 = .ok (.iaload, 1) := by decide +kernel
theorem dX6_releases_20 : decode cX6_releases 20 = .ok (.if_icmp .ge 122, 3) := by decide +kernel
theorem dX6_releases_23 : decode cX6_releases 23 = .ok (.aload_n 0, 1) := by decide +kernel
theorem dX6_releases_24 : decode cX6_releases 24 = .ok (.iload 6, 2) := by decide +kernel
theorem dX6_releases_26 : decode cX6_releases 26 = .ok (.iconst 0, 1) := by decide +kernel
theorem dX6_releases_27 : decode cX6_releases 27 = .ok (.invokestatic 79, 3) := by decide +kernel
theorem dX6_releases_30 : decode cX6_releases 30 = .ok (.iaload, 1) := by decide +kernel
theorem dX6_releases_31 : decode cX6_releases 31 = .ok (.iload_n 1, 1) := by decide +kernel
theorem dX6_releases_32 : decode cX6_releases 32 = .ok (.if_icmp .ne 43, 3) := by decide +kernel
theorem dX6_releases_35 : decode cX6_releases 35 = .ok (.aload_n 0, 1) := by decide +kernel
theorem dX6_releases_36 : decode cX6_releases 36 = .ok (.iload 6, 2) := by decide +kernel
theorem dX6_releases_38 : decode cX6_releases 38 = .ok (.iconst 1, 1) := by decide +kernel
theorem dX6_releases_39 : decode cX6_releases 39 = .ok (.invokestatic 79, 3) := by decide +kernel
theorem dX6_releases_42 : decode cX6_releases 42 = .ok (.iaload, 1) := by decide +kernel
theorem dX6_releases_43 : decode cX6_releases 43 = .ok (.iload_n 2, 1) := by decide +kernel
theorem dX6_releases_44 : decode cX6_releases 44 = .ok (.if_icmp .ne 31, 3) := by decide +kernel
theorem dX6_releases_47 : decode cX6_releases 47 = .ok (.aload_n 0, 1) := by decide +kernel
theorem dX6_releases_48 : decode cX6_releases 48 = .ok (.iload 6, 2) := by decide +kernel
theorem dX6_releases_50 : decode cX6_releases 50 = .ok (.iconst 3, 1) := by decide +kernel
theorem dX6_releases_51 : decode cX6_releases 51 = .ok (.invokestatic 79, 3) := by decide +kernel
theorem dX6_releases_54 : decode cX6_releases 54 = .ok (.iaload, 1) := by decide +kernel
theorem dX6_releases_55 : decode cX6_releases 55 = .ok (.iload 5, 2) := by decide +kernel
theorem dX6_releases_57 : decode cX6_releases 57 = .ok (.if_icmp .ne 18, 3) := by decide +kernel
theorem dX6_releases_60 : decode cX6_releases 60 = .ok (.aload_n 0, 1) := by decide +kernel
theorem dX6_releases_61 : decode cX6_releases 61 = .ok (.iload 6, 2) := by decide +kernel
theorem dX6_releases_63 : decode cX6_releases 63 = .ok (.iconst 4, 1) := by decide +kernel
theorem dX6_releases_64 : decode cX6_releases 64 = .ok (.invokestatic 79, 3) := by decide +kernel
theorem dX6_releases_67 : decode cX6_releases 67 = .ok (.iaload, 1) := by decide +kernel
theorem dX6_releases_68 : decode cX6_releases 68 = .ok (.ifCond .ne 7, 3) := by decide +kernel
theorem dX6_releases_71 : decode cX6_releases 71 = .ok (.iconst 1, 1) := by decide +kernel
theorem dX6_releases_72 : decode cX6_releases 72 = .ok (.goto 4, 3) := by decide +kernel
theorem dX6_releases_75 : decode cX6_releases 75 = .ok (.iconst 0, 1) := by decide +kernel
theorem dX6_releases_76 : decode cX6_releases 76 = .ok (.istore 7, 2) := by decide +kernel
theorem dX6_releases_78 : decode cX6_releases 78 = .ok (.iload 7, 2) := by decide +kernel
theorem dX6_releases_80 : decode cX6_releases 80 = .ok (.ifCond .eq 19, 3) := by decide +kernel
theorem dX6_releases_83 : decode cX6_releases 83 = .ok (.iload 4, 2) := by decide +kernel
theorem dX6_releases_85 : decode cX6_releases 85 = .ok (.aload_n 0, 1) := by decide +kernel
theorem dX6_releases_86 : decode cX6_releases 86 = .ok (.iload 6, 2) := by decide +kernel
theorem dX6_releases_88 : decode cX6_releases 88 = .ok (.iconst 2, 1) := by decide +kernel
theorem dX6_releases_89 : decode cX6_releases 89 = .ok (.invokestatic 79, 3) := by decide +kernel
theorem dX6_releases_92 : decode cX6_releases 92 = .ok (.iaload, 1) := by decide +kernel
theorem dX6_releases_93 : decode cX6_releases 93 = .ok (.invokestatic 104, 3) := by decide +kernel
theorem dX6_releases_96 : decode cX6_releases 96 = .ok (.goto 4, 3) := by decide +kernel
theorem dX6_releases_99 : decode cX6_releases 99 = .ok (.iconst 0, 1) := by decide +kernel
theorem dX6_releases_100 : decode cX6_releases 100 = .ok (.istore 8, 2) := by decide +kernel
theorem dX6_releases_102 : decode cX6_releases 102 = .ok (.iload 4, 2) := by decide +kernel
theorem dX6_releases_104 : decode cX6_releases 104 = .ok (.iload 8, 2) := by decide +kernel
theorem dX6_releases_106 : decode cX6_releases 106 = .ok (.isub, 1) := by decide +kernel
theorem dX6_releases_107 : decode cX6_releases 107 = .ok (.istore 4, 2) := by decide +kernel
theorem dX6_releases_109 : decode cX6_releases 109 = .ok (.aload_n 0, 1) := by decide +kernel
theorem dX6_releases_110 : decode cX6_releases 110 = .ok (.iload 6, 2) := by decide +kernel
theorem dX6_releases_112 : decode cX6_releases 112 = .ok (.iconst 2, 1) := by decide +kernel
theorem dX6_releases_113 : decode cX6_releases 113 = .ok (.invokestatic 79, 3) := by decide +kernel
theorem dX6_releases_116 : decode cX6_releases 116 = .ok (.dup2, 1) := by decide +kernel
theorem dX6_releases_117 : decode cX6_releases 117 = .ok (.iaload, 1) := by decide +kernel
theorem dX6_releases_118 : decode cX6_releases 118 = .ok (.iload 8, 2) := by decide +kernel
theorem dX6_releases_120 : decode cX6_releases 120 = .ok (.isub, 1) := by decide +kernel
theorem dX6_releases_121 : decode cX6_releases 121 = .ok (.iastore, 1) := by decide +kernel
theorem dX6_releases_122 : decode cX6_releases 122 = .ok (.aload_n 0, 1) := by decide +kernel
theorem dX6_releases_123 : decode cX6_releases 123 = .ok (.iload 6, 2) := by decide +kernel
theorem dX6_releases_125 : decode cX6_releases 125 = .ok (.bipush 7, 2) := by decide +kernel
theorem dX6_releases_127 : decode cX6_releases 127 = .ok (.invokestatic 79, 3) := by decide +kernel
theorem dX6_releases_130 : decode cX6_releases 130 = .ok (.dup2, 1) := by decide +kernel
theorem dX6_releases_131 : decode cX6_releases 131 = .ok (.iaload, 1) := by decide +kernel
theorem dX6_releases_132 : decode cX6_releases 132 = .ok (.iload 8, 2) := by decide +kernel
theorem dX6_releases_134 : decode cX6_releases 134 = .ok (.iadd, 1) := by decide +kernel
theorem dX6_releases_135 : decode cX6_releases 135 = .ok (.iastore, 1) := by decide +kernel
theorem dX6_releases_136 : decode cX6_releases 136 = .ok (.iinc 6 1, 3) := by decide +kernel
theorem dX6_releases_139 : decode cX6_releases 139 = .ok (.goto (-124), 3) := by decide +kernel
theorem dX6_releases_142 : decode cX6_releases 142 = .ok (.iinc 5 (-1), 3) := by decide +kernel
theorem dX6_releases_145 : decode cX6_releases 145 = .ok (.goto (-138), 3) := by decide +kernel
theorem dX6_releases_148 : decode cX6_releases 148 = .ok (.return_, 1) := by decide +kernel
theorem dX6_discharges_0 : decode cX6_discharges 0 = .ok (.aload_n 0, 1) := by decide +kernel
theorem dX6_discharges_1 : decode cX6_discharges 1 = .ok (.iload_n 2, 1) := by decide +kernel
theorem dX6_discharges_2 : decode cX6_discharges 2 = .ok (.invokevirtual 114, 3) := by decide +kernel
theorem dX6_discharges_5 : decode cX6_discharges 5 = .ok (.istore_n 3, 1) := by decide +kernel
theorem dX6_discharges_6 : decode cX6_discharges 6 = .ok (.iconst 0, 1) := by decide +kernel
theorem dX6_discharges_7 : decode cX6_discharges 7 = .ok (.istore 4, 2) := by decide +kernel
theorem dX6_discharges_9 : decode cX6_discharges 9 = .ok (.iload 4, 2) := by decide +kernel
theorem dX6_discharges_11 : decode cX6_discharges 11 = .ok (.aload_n 0, 1) := by decide +kernel
theorem dX6_discharges_12 : decode cX6_discharges 12 = .ok (.getfield 86, 3) := by decide +kernel
theorem dX6_discharges_15 : decode cX6_discharges 15 = .ok (.if_icmp .ge 27, 3) := by decide +kernel
theorem dX6_discharges_18 : decode cX6_discharges 18 = .ok (.aload_n 1, 1) := by decide +kernel
theorem dX6_discharges_19 : decode cX6_discharges 19 = .ok (.aload_n 0, 1) := by decide +kernel
theorem dX6_discharges_20 : decode cX6_discharges 20 = .ok (.getfield 28, 3) := by decide +kernel
theorem dX6_discharges_23 : decode cX6_discharges 23 = .ok (.iload 4, 2) := by decide +kernel
theorem dX6_discharges_25 : decode cX6_discharges 25 = .ok (.iaload, 1) := by decide +kernel
theorem dX6_discharges_26 : decode cX6_discharges 26 = .ok (.aload_n 0, 1) := by decide +kernel
theorem dX6_discharges_27 : decode cX6_discharges 27 = .ok (.iload 4, 2) := by decide +kernel
theorem dX6_discharges_29 : decode cX6_discharges 29 = .ok (.invokevirtual 107, 3) := by decide +kernel
theorem dX6_discharges_32 : decode cX6_discharges 32 = .ok (.iload_n 2, 1) := by decide +kernel
theorem dX6_discharges_33 : decode cX6_discharges 33 = .ok (.invokestatic 117, 3) := by decide +kernel
theorem dX6_discharges_36 : decode cX6_discharges 36 = .ok (.iinc 4 1, 3) := by decide +kernel
theorem dX6_discharges_39 : decode cX6_discharges 39 = .ok (.goto (-30), 3) := by decide +kernel
theorem dX6_discharges_42 : decode cX6_discharges 42 = .ok (.aload_n 1, 1) := by decide +kernel
theorem dX6_discharges_43 : decode cX6_discharges 43 = .ok (.iconst 3, 1) := by decide +kernel
theorem dX6_discharges_44 : decode cX6_discharges 44 = .ok (.dup2, 1) := by decide +kernel
theorem dX6_discharges_45 : decode cX6_discharges 45 = .ok (.iaload, 1) := by decide +kernel
theorem dX6_discharges_46 : decode cX6_discharges 46 = .ok (.iload_n 2, 1) := by decide +kernel
theorem dX6_discharges_47 : decode cX6_discharges 47 = .ok (.aload_n 0, 1) := by decide +kernel
theorem dX6_discharges_48 : decode cX6_discharges 48 = .ok (.getfield 86, 3) := by decide +kernel
theorem dX6_discharges_51 : decode cX6_discharges 51 = .ok (.imul, 1) := by decide +kernel
theorem dX6_discharges_52 : decode cX6_discharges 52 = .ok (.iadd, 1) := by decide +kernel
theorem dX6_discharges_53 : decode cX6_discharges 53 = .ok (.iastore, 1) := by decide +kernel
theorem dX6_discharges_54 : decode cX6_discharges 54 = .ok (.aload_n 1, 1) := by decide +kernel
theorem dX6_discharges_55 : decode cX6_discharges 55 = .ok (.iconst 4, 1) := by decide +kernel
theorem dX6_discharges_56 : decode cX6_discharges 56 = .ok (.dup2, 1) := by decide +kernel
theorem dX6_discharges_57 : decode cX6_discharges 57 = .ok (.iaload, 1) := by decide +kernel
theorem dX6_discharges_58 : decode cX6_discharges 58 = .ok (.iconst 1, 1) := by decide +kernel
theorem dX6_discharges_59 : decode cX6_discharges 59 = .ok (.iadd, 1) := by decide +kernel
theorem dX6_discharges_60 : decode cX6_discharges 60 = .ok (.iastore, 1) := by decide +kernel
theorem dX6_discharges_61 : decode cX6_discharges 61 = .ok (.iload_n 3, 1) := by decide +kernel
theorem dX6_discharges_62 : decode cX6_discharges 62 = .ok (.ireturn, 1) := by decide +kernel
theorem dX6_findsBest_0 : decode cX6_findsBest 0 = .ok (.aload_n 0, 1) := by decide +kernel
theorem dX6_findsBest_1 : decode cX6_findsBest 1 = .ok (.aload_n 1, 1) := by decide +kernel
theorem dX6_findsBest_2 : decode cX6_findsBest 2 = .ok (.iconst (-1), 1) := by decide +kernel
theorem dX6_findsBest_3 : decode cX6_findsBest 3 = .ok (.invokevirtual 96, 3) := by decide +kernel
theorem dX6_findsBest_6 : decode cX6_findsBest 6 = .ok (.aload_n 0, 1) := by decide +kernel
theorem dX6_findsBest_7 : decode cX6_findsBest 7 = .ok (.iconst (-1), 1) := by decide +kernel
theorem dX6_findsBest_8 : decode cX6_findsBest 8 = .ok (.putfield 121, 3) := by decide +kernel
theorem dX6_findsBest_11 : decode cX6_findsBest 11 = .ok (.aload_n 0, 1) := by decide +kernel
theorem dX6_findsBest_12 : decode cX6_findsBest 12 = .ok (.iconst 0, 1) := by decide +kernel
theorem dX6_findsBest_13 : decode cX6_findsBest 13 = .ok (.putfield 124, 3) := by decide +kernel
theorem dX6_findsBest_16 : decode cX6_findsBest 16 = .ok (.iconst 0, 1) := by decide +kernel
theorem dX6_findsBest_17 : decode cX6_findsBest 17 = .ok (.istore_n 2, 1) := by decide +kernel
theorem dX6_findsBest_18 : decode cX6_findsBest 18 = .ok (.aload_n 0, 1) := by decide +kernel
theorem dX6_findsBest_19 : decode cX6_findsBest 19 = .ok (.invokevirtual 100, 3) := by decide +kernel
theorem dX6_findsBest_22 : decode cX6_findsBest 22 = .ok (.ifCond .eq 84, 3) := by decide +kernel
theorem dX6_findsBest_25 : decode cX6_findsBest 25 = .ok (.aload_n 0, 1) := by decide +kernel
theorem dX6_findsBest_26 : decode cX6_findsBest 26 = .ok (.aload_n 0, 1) := by decide +kernel
theorem dX6_findsBest_27 : decode cX6_findsBest 27 = .ok (.invokevirtual 127, 3) := by decide +kernel
theorem dX6_findsBest_30 : decode cX6_findsBest 30 = .ok (.invokevirtual 114, 3) := by decide +kernel
theorem dX6_findsBest_33 : decode cX6_findsBest 33 = .ok (.istore_n 3, 1) := by decide +kernel
theorem dX6_findsBest_34 : decode cX6_findsBest 34 = .ok (.aload_n 0, 1) := by decide +kernel
theorem dX6_findsBest_35 : decode cX6_findsBest 35 = .ok (.getfield 121, 3) := by decide +kernel
theorem dX6_findsBest_38 : decode cX6_findsBest 38 = .ok (.iconst (-1), 1) := by decide +kernel
theorem dX6_findsBest_39 : decode cX6_findsBest 39 = .ok (.if_icmp .eq 11, 3) := by decide +kernel
theorem dX6_findsBest_42 : decode cX6_findsBest 42 = .ok (.iload_n 3, 1) := by decide +kernel
theorem dX6_findsBest_43 : decode cX6_findsBest 43 = .ok (.aload_n 0, 1) := by decide +kernel
theorem dX6_findsBest_44 : decode cX6_findsBest 44 = .ok (.getfield 124, 3) := by decide +kernel
theorem dX6_findsBest_47 : decode cX6_findsBest 47 = .ok (.if_icmp .le 53, 3) := by decide +kernel
theorem dX6_findsBest_50 : decode cX6_findsBest 50 = .ok (.aload_n 0, 1) := by decide +kernel
theorem dX6_findsBest_51 : decode cX6_findsBest 51 = .ok (.iload_n 2, 1) := by decide +kernel
theorem dX6_findsBest_52 : decode cX6_findsBest 52 = .ok (.putfield 121, 3) := by decide +kernel
theorem dX6_findsBest_55 : decode cX6_findsBest 55 = .ok (.aload_n 0, 1) := by decide +kernel
theorem dX6_findsBest_56 : decode cX6_findsBest 56 = .ok (.iload_n 3, 1) := by decide +kernel
theorem dX6_findsBest_57 : decode cX6_findsBest 57 = .ok (.putfield 124, 3) := by decide +kernel
theorem dX6_findsBest_60 : decode cX6_findsBest 60 = .ok (.aload_n 0, 1) := by decide +kernel
theorem dX6_findsBest_61 : decode cX6_findsBest 61 = .ok (.aload_n 0, 1) := by decide +kernel
theorem dX6_findsBest_62 : decode cX6_findsBest 62 = .ok (.getfield 86, 3) := by decide +kernel
theorem dX6_findsBest_65 : decode cX6_findsBest 65 = .ok (.putfield 131, 3) := by decide +kernel
theorem dX6_findsBest_68 : decode cX6_findsBest 68 = .ok (.iconst 0, 1) := by decide +kernel
theorem dX6_findsBest_69 : decode cX6_findsBest 69 = .ok (.istore 4, 2) := by decide +kernel
theorem dX6_findsBest_71 : decode cX6_findsBest 71 = .ok (.iload 4, 2) := by decide +kernel
theorem dX6_findsBest_73 : decode cX6_findsBest 73 = .ok (.aload_n 0, 1) := by decide +kernel
theorem dX6_findsBest_74 : decode cX6_findsBest 74 = .ok (.getfield 86, 3) := by decide +kernel
theorem dX6_findsBest_77 : decode cX6_findsBest 77 = .ok (.if_icmp .ge 23, 3) := by decide +kernel
theorem dX6_findsBest_80 : decode cX6_findsBest 80 = .ok (.aload_n 0, 1) := by decide +kernel
theorem dX6_findsBest_81 : decode cX6_findsBest 81 = .ok (.getfield 34, 3) := by decide +kernel
theorem dX6_findsBest_84 : decode cX6_findsBest 84 = .ok (.iload 4, 2) := by decide +kernel
theorem dX6_findsBest_86 : decode cX6_findsBest 86 = .ok (.aload_n 0, 1) := by decide +kernel
theorem dX6_findsBest_87 : decode cX6_findsBest 87 = .ok (.getfield 28, 3) := by decide +kernel
theorem dX6_findsBest_90 : decode cX6_findsBest 90 = .ok (.iload 4, 2) := by decide +kernel
theorem dX6_findsBest_92 : decode cX6_findsBest 92 = .ok (.iaload, 1) := by decide +kernel
theorem dX6_findsBest_93 : decode cX6_findsBest 93 = .ok (.iastore, 1) := by decide +kernel
theorem dX6_findsBest_94 : decode cX6_findsBest 94 = .ok (.iinc 4 1, 3) := by decide +kernel
theorem dX6_findsBest_97 : decode cX6_findsBest 97 = .ok (.goto (-26), 3) := by decide +kernel
theorem dX6_findsBest_100 : decode cX6_findsBest 100 = .ok (.iinc 2 1, 3) := by decide +kernel
theorem dX6_findsBest_103 : decode cX6_findsBest 103 = .ok (.goto (-85), 3) := by decide +kernel
theorem dX6_findsBest_106 : decode cX6_findsBest 106 = .ok (.aload_n 0, 1) := by decide +kernel
theorem dX6_findsBest_107 : decode cX6_findsBest 107 = .ok (.getfield 121, 3) := by decide +kernel
theorem dX6_findsBest_110 : decode cX6_findsBest 110 = .ok (.iconst (-1), 1) := by decide +kernel
theorem dX6_findsBest_111 : decode cX6_findsBest 111 = .ok (.if_icmp .eq 7, 3) := by decide +kernel
theorem dX6_findsBest_114 : decode cX6_findsBest 114 = .ok (.iconst 1, 1) := by decide +kernel
theorem dX6_findsBest_115 : decode cX6_findsBest 115 = .ok (.goto 4, 3) := by decide +kernel
theorem dX6_findsBest_118 : decode cX6_findsBest 118 = .ok (.iconst 0, 1) := by decide +kernel
theorem dX6_findsBest_119 : decode cX6_findsBest 119 = .ok (.ireturn, 1) := by decide +kernel
theorem dX6_dischargesBest_0 : decode cX6_dischargesBest 0 = .ok (.aload_n 0, 1) := by decide +kernel
theorem dX6_dischargesBest_1 : decode cX6_dischargesBest 1 = .ok (.aload_n 0, 1) := by decide +kernel
theorem dX6_dischargesBest_2 : decode cX6_dischargesBest 2 = .ok (.getfield 131, 3) := by decide +kernel
theorem dX6_dischargesBest_5 : decode cX6_dischargesBest 5 = .ok (.putfield 86, 3) := by decide +kernel
theorem dX6_dischargesBest_8 : decode cX6_dischargesBest 8 = .ok (.iconst 0, 1) := by decide +kernel
theorem dX6_dischargesBest_9 : decode cX6_dischargesBest 9 = .ok (.istore_n 2, 1) := by decide +kernel
theorem dX6_dischargesBest_10 : decode cX6_dischargesBest 10 = .ok (.iload_n 2, 1) := by decide +kernel
theorem dX6_dischargesBest_11 : decode cX6_dischargesBest 11 = .ok (.aload_n 0, 1) := by decide +kernel
theorem dX6_dischargesBest_12 : decode cX6_dischargesBest 12 = .ok (.getfield 86, 3) := by decide +kernel
theorem dX6_dischargesBest_15 : decode cX6_dischargesBest 15 = .ok (.if_icmp .ge 21, 3) := by decide +kernel
theorem dX6_dischargesBest_18 : decode cX6_dischargesBest 18 = .ok (.aload_n 0, 1) := by decide +kernel
theorem dX6_dischargesBest_19 : decode cX6_dischargesBest 19 = .ok (.getfield 28, 3) := by decide +kernel
theorem dX6_dischargesBest_22 : decode cX6_dischargesBest 22 = .ok (.iload_n 2, 1) := by decide +kernel
theorem dX6_dischargesBest_23 : decode cX6_dischargesBest 23 = .ok (.aload_n 0, 1) := by decide +kernel
theorem dX6_dischargesBest_24 : decode cX6_dischargesBest 24 = .ok (.getfield 34, 3) := by decide +kernel
theorem dX6_dischargesBest_27 : decode cX6_dischargesBest 27 = .ok (.iload_n 2, 1) := by decide +kernel
theorem dX6_dischargesBest_28 : decode cX6_dischargesBest 28 = .ok (.iaload, 1) := by decide +kernel
theorem dX6_dischargesBest_29 : decode cX6_dischargesBest 29 = .ok (.iastore, 1) := by decide +kernel
theorem dX6_dischargesBest_30 : decode cX6_dischargesBest 30 = .ok (.iinc 2 1, 3) := by decide +kernel
theorem dX6_dischargesBest_33 : decode cX6_dischargesBest 33 = .ok (.goto (-23), 3) := by decide +kernel
theorem dX6_dischargesBest_36 : decode cX6_dischargesBest 36 = .ok (.aload_n 0, 1) := by decide +kernel
theorem dX6_dischargesBest_37 : decode cX6_dischargesBest 37 = .ok (.aload_n 1, 1) := by decide +kernel
theorem dX6_dischargesBest_38 : decode cX6_dischargesBest 38 = .ok (.aload_n 0, 1) := by decide +kernel
theorem dX6_dischargesBest_39 : decode cX6_dischargesBest 39 = .ok (.invokevirtual 127, 3) := by decide +kernel
theorem dX6_dischargesBest_42 : decode cX6_dischargesBest 42 = .ok (.invokevirtual 134, 3) := by decide +kernel
theorem dX6_dischargesBest_45 : decode cX6_dischargesBest 45 = .ok (.pop, 1) := by decide +kernel
theorem dX6_dischargesBest_46 : decode cX6_dischargesBest 46 = .ok (.return_, 1) := by decide +kernel
theorem dX6_dischargesAll_0 : decode cX6_dischargesAll 0 = .ok (.iconst 0, 1) := by decide +kernel
theorem dX6_dischargesAll_1 : decode cX6_dischargesAll 1 = .ok (.istore_n 2, 1) := by decide +kernel
theorem dX6_dischargesAll_2 : decode cX6_dischargesAll 2 = .ok (.aload_n 0, 1) := by decide +kernel
theorem dX6_dischargesAll_3 : decode cX6_dischargesAll 3 = .ok (.aload_n 1, 1) := by decide +kernel
theorem dX6_dischargesAll_4 : decode cX6_dischargesAll 4 = .ok (.invokevirtual 138, 3) := by decide +kernel
theorem dX6_dischargesAll_7 : decode cX6_dischargesAll 7 = .ok (.ifCond .eq 14, 3) := by decide +kernel
theorem dX6_dischargesAll_10 : decode cX6_dischargesAll 10 = .ok (.aload_n 0, 1) := by decide +kernel
theorem dX6_dischargesAll_11 : decode cX6_dischargesAll 11 = .ok (.aload_n 1, 1) := by decide +kernel
theorem dX6_dischargesAll_12 : decode cX6_dischargesAll 12 = .ok (.invokevirtual 142, 3) := by decide +kernel
theorem dX6_dischargesAll_15 : decode cX6_dischargesAll 15 = .ok (.iinc 2 1, 3) := by decide +kernel
theorem dX6_dischargesAll_18 : decode cX6_dischargesAll 18 = .ok (.goto (-16), 3) := by decide +kernel
theorem dX6_dischargesAll_21 : decode cX6_dischargesAll 21 = .ok (.iload_n 2, 1) := by decide +kernel
theorem dX6_dischargesAll_22 : decode cX6_dischargesAll 22 = .ok (.ireturn, 1) := by decide +kernel
theorem dX6_begin_0 : decode cX6_begin 0 = .ok (.aload_n 0, 1) := by decide +kernel
theorem dX6_begin_1 : decode cX6_begin 1 = .ok (.iload_n 1, 1) := by decide +kernel
theorem dX6_begin_2 : decode cX6_begin 2 = .ok (.iconst 2, 1) := by decide +kernel
theorem dX6_begin_3 : decode cX6_begin 3 = .ok (.bipush 7, 2) := by decide +kernel
theorem dX6_begin_5 : decode cX6_begin 5 = .ok (.invokestatic 68, 3) := by decide +kernel
theorem dX6_begin_8 : decode cX6_begin 8 = .ok (.ifCond .ne 7, 3) := by decide +kernel
theorem dX6_begin_11 : decode cX6_begin 11 = .ok (.iconst 1, 1) := by decide +kernel
theorem dX6_begin_12 : decode cX6_begin 12 = .ok (.goto 4, 3) := by decide +kernel
theorem dX6_begin_15 : decode cX6_begin 15 = .ok (.iconst 0, 1) := by decide +kernel
theorem dX6_begin_16 : decode cX6_begin 16 = .ok (.iconst 0, 1) := by decide +kernel
theorem dX6_begin_17 : decode cX6_begin 17 = .ok (.iconst 0, 1) := by decide +kernel
theorem dX6_begin_18 : decode cX6_begin 18 = .ok (.invokevirtual 146, 3) := by decide +kernel
theorem dX6_begin_21 : decode cX6_begin 21 = .ok (.ifCond .ne 5, 3) := by decide +kernel
theorem dX6_begin_24 : decode cX6_begin 24 = .ok (.iconst 0, 1) := by decide +kernel
theorem dX6_begin_25 : decode cX6_begin 25 = .ok (.ireturn, 1) := by decide +kernel
theorem dX6_begin_26 : decode cX6_begin 26 = .ok (.aload_n 0, 1) := by decide +kernel
theorem dX6_begin_27 : decode cX6_begin 27 = .ok (.invokevirtual 150, 3) := by decide +kernel
theorem dX6_begin_30 : decode cX6_begin 30 = .ok (.aload_n 0, 1) := by decide +kernel
theorem dX6_begin_31 : decode cX6_begin 31 = .ok (.getfield 7, 3) := by decide +kernel
theorem dX6_begin_34 : decode cX6_begin 34 = .ok (.iconst 1, 1) := by decide +kernel
theorem dX6_begin_35 : decode cX6_begin 35 = .ok (.iaload, 1) := by decide +kernel
theorem dX6_begin_36 : decode cX6_begin 36 = .ok (.istore_n 2, 1) := by decide +kernel
theorem dX6_begin_37 : decode cX6_begin 37 = .ok (.iconst 0, 1) := by decide +kernel
theorem dX6_begin_38 : decode cX6_begin 38 = .ok (.istore_n 3, 1) := by decide +kernel
theorem dX6_begin_39 : decode cX6_begin 39 = .ok (.iload_n 3, 1) := by decide +kernel
theorem dX6_begin_40 : decode cX6_begin 40 = .ok (.sipush 325, 3) := by decide +kernel
theorem dX6_begin_43 : decode cX6_begin 43 = .ok (.if_icmp .ge 16, 3) := by decide +kernel
theorem dX6_begin_46 : decode cX6_begin 46 = .ok (.aload_n 0, 1) := by decide +kernel
theorem dX6_begin_47 : decode cX6_begin 47 = .ok (.getfield 7, 3) := by decide +kernel
theorem dX6_begin_50 : decode cX6_begin 50 = .ok (.iload_n 3, 1) := by decide +kernel
theorem dX6_begin_51 : decode cX6_begin 51 = .ok (.iconst 0, 1) := by decide +kernel
theorem dX6_begin_52 : decode cX6_begin 52 = .ok (.iastore, 1) := by decide +kernel
theorem dX6_begin_53 : decode cX6_begin 53 = .ok (.iinc 3 1, 3) := by decide +kernel
theorem dX6_begin_56 : decode cX6_begin 56 = .ok (.goto (-17), 3) := by decide +kernel
theorem dX6_begin_59 : decode cX6_begin 59 = .ok (.aload_n 0, 1) := by decide +kernel
theorem dX6_begin_60 : decode cX6_begin 60 = .ok (.getfield 7, 3) := by decide +kernel
theorem dX6_begin_63 : decode cX6_begin 63 = .ok (.iconst 0, 1) := by decide +kernel
theorem dX6_begin_64 : decode cX6_begin 64 = .ok (.iload_n 1, 1) := by decide +kernel
theorem dX6_begin_65 : decode cX6_begin 65 = .ok (.iastore, 1) := by decide +kernel
theorem dX6_begin_66 : decode cX6_begin 66 = .ok (.iload_n 2, 1) := by decide +kernel
theorem dX6_begin_67 : decode cX6_begin 67 = .ok (.ireturn, 1) := by decide +kernel
theorem dX6_makes_0 : decode cX6_makes 0 = .ok (.aload_n 0, 1) := by decide +kernel
theorem dX6_makes_1 : decode cX6_makes 1 = .ok (.getfield 7, 3) := by decide +kernel
theorem dX6_makes_4 : decode cX6_makes 4 = .ok (.iconst 1, 1) := by decide +kernel
theorem dX6_makes_5 : decode cX6_makes 5 = .ok (.iaload, 1) := by decide +kernel
theorem dX6_makes_6 : decode cX6_makes 6 = .ok (.istore 5, 2) := by decide +kernel
theorem dX6_makes_8 : decode cX6_makes 8 = .ok (.aload_n 0, 1) := by decide +kernel
theorem dX6_makes_9 : decode cX6_makes 9 = .ok (.getfield 7, 3) := by decide +kernel
theorem dX6_makes_12 : decode cX6_makes 12 = .ok (.iload 5, 2) := by decide +kernel
theorem dX6_makes_14 : decode cX6_makes 14 = .ok (.iconst 0, 1) := by decide +kernel
theorem dX6_makes_15 : decode cX6_makes 15 = .ok (.invokestatic 79, 3) := by decide +kernel
theorem dX6_makes_18 : decode cX6_makes 18 = .ok (.iload_n 1, 1) := by decide +kernel
theorem dX6_makes_19 : decode cX6_makes 19 = .ok (.iastore, 1) := by decide +kernel
theorem dX6_makes_20 : decode cX6_makes 20 = .ok (.aload_n 0, 1) := by decide +kernel
theorem dX6_makes_21 : decode cX6_makes 21 = .ok (.getfield 7, 3) := by decide +kernel
theorem dX6_makes_24 : decode cX6_makes 24 = .ok (.iload 5, 2) := by decide +kernel
theorem dX6_makes_26 : decode cX6_makes 26 = .ok (.iconst 1, 1) := by decide +kernel
theorem dX6_makes_27 : decode cX6_makes 27 = .ok (.invokestatic 79, 3) := by decide +kernel
theorem dX6_makes_30 : decode cX6_makes 30 = .ok (.iload_n 2, 1) := by decide +kernel
theorem dX6_makes_31 : decode cX6_makes 31 = .ok (.iastore, 1) := by decide +kernel
theorem dX6_makes_32 : decode cX6_makes 32 = .ok (.aload_n 0, 1) := by decide +kernel
theorem dX6_makes_33 : decode cX6_makes 33 = .ok (.getfield 7, 3) := by decide +kernel
theorem dX6_makes_36 : decode cX6_makes 36 = .ok (.iload 5, 2) := by decide +kernel
theorem dX6_makes_38 : decode cX6_makes 38 = .ok (.iconst 2, 1) := by decide +kernel
theorem dX6_makes_39 : decode cX6_makes 39 = .ok (.invokestatic 79, 3) := by decide +kernel
theorem dX6_makes_42 : decode cX6_makes 42 = .ok (.iload_n 3, 1) := by decide +kernel
theorem dX6_makes_43 : decode cX6_makes 43 = .ok (.iastore, 1) := by decide +kernel
theorem dX6_makes_44 : decode cX6_makes 44 = .ok (.aload_n 0, 1) := by decide +kernel
theorem dX6_makes_45 : decode cX6_makes 45 = .ok (.getfield 7, 3) := by decide +kernel
theorem dX6_makes_48 : decode cX6_makes 48 = .ok (.iload 5, 2) := by decide +kernel
theorem dX6_makes_50 : decode cX6_makes 50 = .ok (.iconst 3, 1) := by decide +kernel
theorem dX6_makes_51 : decode cX6_makes 51 = .ok (.invokestatic 79, 3) := by decide +kernel
theorem dX6_makes_54 : decode cX6_makes 54 = .ok (.iload 4, 2) := by decide +kernel
theorem dX6_makes_56 : decode cX6_makes 56 = .ok (.iastore, 1) := by decide +kernel
theorem dX6_makes_57 : decode cX6_makes 57 = .ok (.aload_n 0, 1) := by decide +kernel
theorem dX6_makes_58 : decode cX6_makes 58 = .ok (.getfield 7, 3) := by decide +kernel
theorem dX6_makes_61 : decode cX6_makes 61 = .ok (.iload 5, 2) := by decide +kernel
theorem dX6_makes_63 : decode cX6_makes 63 = .ok (.iconst 5, 1) := by decide +kernel
theorem dX6_makes_64 : decode cX6_makes 64 = .ok (.invokestatic 79, 3) := by decide +kernel
theorem dX6_makes_67 : decode cX6_makes 67 = .ok (.iload_n 3, 1) := by decide +kernel
theorem dX6_makes_68 : decode cX6_makes 68 = .ok (.iastore, 1) := by decide +kernel
theorem dX6_makes_69 : decode cX6_makes 69 = .ok (.aload_n 0, 1) := by decide +kernel
theorem dX6_makes_70 : decode cX6_makes 70 = .ok (.getfield 7, 3) := by decide +kernel
theorem dX6_makes_73 : decode cX6_makes 73 = .ok (.iconst 1, 1) := by decide +kernel
theorem dX6_makes_74 : decode cX6_makes 74 = .ok (.dup2, 1) := by decide +kernel
theorem dX6_makes_75 : decode cX6_makes 75 = .ok (.iaload, 1) := by decide +kernel
theorem dX6_makes_76 : decode cX6_makes 76 = .ok (.iconst 1, 1) := by decide +kernel
theorem dX6_makes_77 : decode cX6_makes 77 = .ok (.iadd, 1) := by decide +kernel
theorem dX6_makes_78 : decode cX6_makes 78 = .ok (.iastore, 1) := by decide +kernel
theorem dX6_makes_79 : decode cX6_makes 79 = .ok (.return_, 1) := by decide +kernel
theorem dX6_promise_0 : decode cX6_promise 0 = .ok (.iload_n 3, 1) := by decide +kernel
theorem dX6_promise_1 : decode cX6_promise 1 = .ok (.iconst 1, 1) := by decide +kernel
theorem dX6_promise_2 : decode cX6_promise 2 = .ok (.sipush 1000, 3) := by decide +kernel
theorem dX6_promise_5 : decode cX6_promise 5 = .ok (.invokestatic 68, 3) := by decide +kernel
theorem dX6_promise_8 : decode cX6_promise 8 = .ok (.ifCond .eq 23, 3) := by decide +kernel
theorem dX6_promise_11 : decode cX6_promise 11 = .ok (.iload 4, 2) := by decide +kernel
theorem dX6_promise_13 : decode cX6_promise 13 = .ok (.iconst 1, 1) := by decide +kernel
theorem dX6_promise_14 : decode cX6_promise 14 = .ok (.bipush 9, 2) := by decide +kernel
theorem dX6_promise_16 : decode cX6_promise 16 = .ok (.invokestatic 68, 3) := by decide +kernel
theorem dX6_promise_19 : decode cX6_promise 19 = .ok (.ifCond .eq 12, 3) := by decide +kernel
theorem dX6_promise_22 : decode cX6_promise 22 = .ok (.iload_n 1, 1) := by decide +kernel
theorem dX6_promise_23 : decode cX6_promise 23 = .ok (.iload_n 2, 1) := by decide +kernel
theorem dX6_promise_24 : decode cX6_promise 24 = .ok (.if_icmp .eq 7, 3) := by decide +kernel
theorem dX6_promise_27 : decode cX6_promise 27 = .ok (.iconst 1, 1) := by decide +kernel
theorem dX6_promise_28 : decode cX6_promise 28 = .ok (.goto 4, 3) := by decide +kernel
theorem dX6_promise_31 : decode cX6_promise 31 = .ok (.iconst 0, 1) := by decide +kernel
theorem dX6_promise_32 : decode cX6_promise 32 = .ok (.istore 5, 2) := by decide +kernel
theorem dX6_promise_34 : decode cX6_promise 34 = .ok (.aload_n 0, 1) := by decide +kernel
theorem dX6_promise_35 : decode cX6_promise 35 = .ok (.aload_n 0, 1) := by decide +kernel
theorem dX6_promise_36 : decode cX6_promise 36 = .ok (.iload_n 1, 1) := by decide +kernel
theorem dX6_promise_37 : decode cX6_promise 37 = .ok (.invokevirtual 153, 3) := by decide +kernel
theorem dX6_promise_40 : decode cX6_promise 40 = .ok (.ifCond .eq 11, 3) := by decide +kernel
theorem dX6_promise_43 : decode cX6_promise 43 = .ok (.aload_n 0, 1) := by decide +kernel
theorem dX6_promise_44 : decode cX6_promise 44 = .ok (.iload_n 2, 1) := by decide +kernel
theorem dX6_promise_45 : decode cX6_promise 45 = .ok (.invokevirtual 153, 3) := by decide +kernel
theorem dX6_promise_48 : decode cX6_promise 48 = .ok (.ifCond .ne 7, 3) := by decide +kernel
theorem dX6_promise_51 : decode cX6_promise 51 = .ok (.iconst 1, 1) := by decide +kernel
theorem dX6_promise_52 : decode cX6_promise 52 = .ok (.goto 4, 3) := by decide +kernel
theorem dX6_promise_55 : decode cX6_promise 55 = .ok (.iconst 0, 1) := by decide +kernel
theorem dX6_promise_56 : decode cX6_promise 56 = .ok (.iload 5, 2) := by decide +kernel
theorem dX6_promise_58 : decode cX6_promise 58 = .ok (.ifCond .ne 7, 3) := by decide +kernel
theorem dX6_promise_61 : decode cX6_promise 61 = .ok (.iconst 1, 1) := by decide +kernel
theorem dX6_promise_62 : decode cX6_promise 62 = .ok (.goto 4, 3) := by decide +kernel
theorem dX6_promise_65 : decode cX6_promise 65 = .ok (.iconst 0, 1) := by decide +kernel
theorem dX6_promise_66 : decode cX6_promise 66 = .ok (.aload_n 0, 1) := by decide +kernel
theorem dX6_promise_67 : decode cX6_promise 67 = .ok (.getfield 7, 3) := by decide +kernel
theorem dX6_promise_70 : decode cX6_promise 70 = .ok (.iconst 1, 1) := by decide +kernel
theorem dX6_promise_71 : decode cX6_promise 71 = .ok (.iaload, 1) := by decide +kernel
theorem dX6_promise_72 : decode cX6_promise 72 = .ok (.bipush 40, 2) := by decide +kernel
theorem dX6_promise_74 : decode cX6_promise 74 = .ok (.if_icmp .ne 7, 3) := by decide +kernel
theorem dX6_promise_77 : decode cX6_promise 77 = .ok (.iconst 1, 1) := by decide +kernel
theorem dX6_promise_78 : decode cX6_promise 78 = .ok (.goto 4, 3) := by decide +kernel
theorem dX6_promise_81 : decode cX6_promise 81 = .ok (.iconst 0, 1) := by decide +kernel
theorem dX6_promise_82 : decode cX6_promise 82 = .ok (.invokevirtual 146, 3) := by decide +kernel
theorem dX6_promise_85 : decode cX6_promise 85 = .ok (.ifCond .ne 5, 3) := by decide +kernel
theorem dX6_promise_88 : decode cX6_promise 88 = .ok (.iconst 0, 1) := by decide +kernel
theorem dX6_promise_89 : decode cX6_promise 89 = .ok (.ireturn, 1) := by decide +kernel
theorem dX6_promise_90 : decode cX6_promise 90 = .ok (.aload_n 0, 1) := by decide +kernel
theorem dX6_promise_91 : decode cX6_promise 91 = .ok (.invokevirtual 150, 3) := by decide +kernel
theorem dX6_promise_94 : decode cX6_promise 94 = .ok (.aload_n 0, 1) := by decide +kernel
theorem dX6_promise_95 : decode cX6_promise 95 = .ok (.iload_n 1, 1) := by decide +kernel
theorem dX6_promise_96 : decode cX6_promise 96 = .ok (.iload_n 2, 1) := by decide +kernel
theorem dX6_promise_97 : decode cX6_promise 97 = .ok (.iload_n 3, 1) := by decide +kernel
theorem dX6_promise_98 : decode cX6_promise 98 = .ok (.iload 4, 2) := by decide +kernel
theorem dX6_promise_100 : decode cX6_promise 100 = .ok (.invokevirtual 156, 3) := by decide +kernel
theorem dX6_promise_103 : decode cX6_promise 103 = .ok (.aload_n 0, 1) := by decide +kernel
theorem dX6_promise_104 : decode cX6_promise 104 = .ok (.getfield 7, 3) := by decide +kernel
theorem dX6_promise_107 : decode cX6_promise 107 = .ok (.iconst 1, 1) := by decide +kernel
theorem dX6_promise_108 : decode cX6_promise 108 = .ok (.iaload, 1) := by decide +kernel
theorem dX6_promise_109 : decode cX6_promise 109 = .ok (.iconst 1, 1) := by decide +kernel
theorem dX6_promise_110 : decode cX6_promise 110 = .ok (.isub, 1) := by decide +kernel
theorem dX6_promise_111 : decode cX6_promise 111 = .ok (.ireturn, 1) := by decide +kernel
theorem dX6_pay_0 : decode cX6_pay 0 = .ok (.aload_n 0, 1) := by decide +kernel
theorem dX6_pay_1 : decode cX6_pay 1 = .ok (.iload_n 1, 1) := by decide +kernel
theorem dX6_pay_2 : decode cX6_pay 2 = .ok (.invokevirtual 160, 3) := by decide +kernel
theorem dX6_pay_5 : decode cX6_pay 5 = .ok (.istore_n 3, 1) := by decide +kernel
theorem dX6_pay_6 : decode cX6_pay 6 = .ok (.aload_n 0, 1) := by decide +kernel
theorem dX6_pay_7 : decode cX6_pay 7 = .ok (.iload_n 3, 1) := by decide +kernel
theorem dX6_pay_8 : decode cX6_pay 8 = .ok (.ifCond .ne 7, 3) := by decide +kernel
theorem dX6_pay_11 : decode cX6_pay 11 = .ok (.iconst 1, 1) := by decide +kernel
theorem dX6_pay_12 : decode cX6_pay 12 = .ok (.goto 4, 3) := by decide +kernel
theorem dX6_pay_15 : decode cX6_pay 15 = .ok (.iconst 0, 1) := by decide +kernel
theorem dX6_pay_16 : decode cX6_pay 16 = .ok (.iload_n 2, 1) := by decide +kernel
theorem dX6_pay_17 : decode cX6_pay 17 = .ok (.iconst 1, 1) := by decide +kernel
theorem dX6_pay_18 : decode cX6_pay 18 = .ok (.if_icmp .ge 7, 3) := by decide +kernel
theorem dX6_pay_21 : decode cX6_pay 21 = .ok (.iconst 1, 1) := by decide +kernel
theorem dX6_pay_22 : decode cX6_pay 22 = .ok (.goto 4, 3) := by decide +kernel
theorem dX6_pay_25 : decode cX6_pay 25 = .ok (.iconst 0, 1) := by decide +kernel
theorem dX6_pay_26 : decode cX6_pay 26 = .ok (.iload_n 3, 1) := by decide +kernel
theorem dX6_pay_27 : decode cX6_pay 27 = .ok (.ifCond .eq 21, 3) := by decide +kernel
theorem dX6_pay_30 : decode cX6_pay 30 = .ok (.iload_n 2, 1) := by decide +kernel
theorem dX6_pay_31 : decode cX6_pay 31 = .ok (.aload_n 0, 1) := by decide +kernel
theorem dX6_pay_32 : decode cX6_pay 32 = .ok (.getfield 7, 3) := by decide +kernel
theorem dX6_pay_35 : decode cX6_pay 35 = .ok (.iload_n 1, 1) := by decide +kernel
theorem dX6_pay_36 : decode cX6_pay 36 = .ok (.iconst 2, 1) := by decide +kernel
theorem dX6_pay_37 : decode cX6_pay 37 = .ok (.invokestatic 79, 3) := by decide +kernel
theorem dX6_pay_40 : decode cX6_pay 40 = .ok (.iaload, 1) := by decide +kernel
theorem dX6_pay_41 : decode cX6_pay 41 = .ok (.if_icmp .le 7, 3) := by decide +kernel
theorem dX6_pay_44 : decode cX6_pay 44 = .ok (.iconst 1, 1) := by decide +kernel
theorem dX6_pay_45 : decode cX6_pay 45 = .ok (.goto 4, 3) := by decide +kernel
theorem dX6_pay_48 : decode cX6_pay 48 = .ok (.iconst 0, 1) := by decide +kernel
theorem dX6_pay_49 : decode cX6_pay 49 = .ok (.invokevirtual 146, 3) := by decide +kernel
theorem dX6_pay_52 : decode cX6_pay 52 = .ok (.ifCond .ne 5, 3) := by decide +kernel
theorem dX6_pay_55 : decode cX6_pay 55 = .ok (.iconst 0, 1) := by decide +kernel
theorem dX6_pay_56 : decode cX6_pay 56 = .ok (.ireturn, 1) := by decide +kernel
theorem dX6_pay_57 : decode cX6_pay 57 = .ok (.aload_n 0, 1) := by decide +kernel
theorem dX6_pay_58 : decode cX6_pay 58 = .ok (.invokevirtual 150, 3) := by decide +kernel
theorem dX6_pay_61 : decode cX6_pay 61 = .ok (.aload_n 0, 1) := by decide +kernel
theorem dX6_pay_62 : decode cX6_pay 62 = .ok (.getfield 7, 3) := by decide +kernel
theorem dX6_pay_65 : decode cX6_pay 65 = .ok (.iload_n 1, 1) := by decide +kernel
theorem dX6_pay_66 : decode cX6_pay 66 = .ok (.iconst 2, 1) := by decide +kernel
theorem dX6_pay_67 : decode cX6_pay 67 = .ok (.invokestatic 79, 3) := by decide +kernel
theorem dX6_pay_70 : decode cX6_pay 70 = .ok (.dup2, 1) := by decide +kernel
theorem dX6_pay_71 : decode cX6_pay 71 = .ok (.iaload, 1) := by decide +kernel
theorem dX6_pay_72 : decode cX6_pay 72 = .ok (.iload_n 2, 1) := by decide +kernel
theorem dX6_pay_73 : decode cX6_pay 73 = .ok (.isub, 1) := by decide +kernel
theorem dX6_pay_74 : decode cX6_pay 74 = .ok (.iastore, 1) := by decide +kernel
theorem dX6_pay_75 : decode cX6_pay 75 = .ok (.aload_n 0, 1) := by decide +kernel
theorem dX6_pay_76 : decode cX6_pay 76 = .ok (.getfield 7, 3) := by decide +kernel
theorem dX6_pay_79 : decode cX6_pay 79 = .ok (.iload_n 1, 1) := by decide +kernel
theorem dX6_pay_80 : decode cX6_pay 80 = .ok (.bipush 6, 2) := by decide +kernel
theorem dX6_pay_82 : decode cX6_pay 82 = .ok (.invokestatic 79, 3) := by decide +kernel
theorem dX6_pay_85 : decode cX6_pay 85 = .ok (.dup2, 1) := by decide +kernel
theorem dX6_pay_86 : decode cX6_pay 86 = .ok (.iaload, 1) := by decide +kernel
theorem dX6_pay_87 : decode cX6_pay 87 = .ok (.iload_n 2, 1) := by decide +kernel
theorem dX6_pay_88 : decode cX6_pay 88 = .ok (.iadd, 1) := by decide +kernel
theorem dX6_pay_89 : decode cX6_pay 89 = .ok (.iastore, 1) := by decide +kernel
theorem dX6_pay_90 : decode cX6_pay 90 = .ok (.aload_n 0, 1) := by decide +kernel
theorem dX6_pay_91 : decode cX6_pay 91 = .ok (.getfield 7, 3) := by decide +kernel
theorem dX6_pay_94 : decode cX6_pay 94 = .ok (.iconst 2, 1) := by decide +kernel
theorem dX6_pay_95 : decode cX6_pay 95 = .ok (.dup2, 1) := by decide +kernel
theorem dX6_pay_96 : decode cX6_pay 96 = .ok (.iaload, 1) := by decide +kernel
theorem dX6_pay_97 : decode cX6_pay 97 = .ok (.iload_n 2, 1) := by decide +kernel
theorem dX6_pay_98 : decode cX6_pay 98 = .ok (.iadd, 1) := by decide +kernel
theorem dX6_pay_99 : decode cX6_pay 99 = .ok (.iastore, 1) := by decide +kernel
theorem dX6_pay_100 : decode cX6_pay 100 = .ok (.aload_n 0, 1) := by decide +kernel
theorem dX6_pay_101 : decode cX6_pay 101 = .ok (.getfield 7, 3) := by decide +kernel
theorem dX6_pay_104 : decode cX6_pay 104 = .ok (.iload_n 1, 1) := by decide +kernel
theorem dX6_pay_105 : decode cX6_pay 105 = .ok (.iconst 2, 1) := by decide +kernel
theorem dX6_pay_106 : decode cX6_pay 106 = .ok (.invokestatic 79, 3) := by decide +kernel
theorem dX6_pay_109 : decode cX6_pay 109 = .ok (.iaload, 1) := by decide +kernel
theorem dX6_pay_110 : decode cX6_pay 110 = .ok (.ireturn, 1) := by decide +kernel
theorem dX6_isFree_0 : decode cX6_isFree 0 = .ok (.aload_n 0, 1) := by decide +kernel
theorem dX6_isFree_1 : decode cX6_isFree 1 = .ok (.getfield 7, 3) := by decide +kernel
theorem dX6_isFree_4 : decode cX6_isFree 4 = .ok (.iload_n 1, 1) := by decide +kernel
theorem dX6_isFree_5 : decode cX6_isFree 5 = .ok (.iconst 4, 1) := by decide +kernel
theorem dX6_isFree_6 : decode cX6_isFree 6 = .ok (.invokestatic 79, 3) := by decide +kernel
theorem dX6_isFree_9 : decode cX6_isFree 9 = .ok (.iaload, 1) := by decide +kernel
theorem dX6_isFree_10 : decode cX6_isFree 10 = .ok (.ifCond .ne 20, 3) := by decide +kernel
theorem dX6_isFree_13 : decode cX6_isFree 13 = .ok (.aload_n 0, 1) := by decide +kernel
theorem dX6_isFree_14 : decode cX6_isFree 14 = .ok (.getfield 7, 3) := by decide +kernel
theorem dX6_isFree_17 : decode cX6_isFree 17 = .ok (.iload_n 1, 1) := by decide +kernel
theorem dX6_isFree_18 : decode cX6_isFree 18 = .ok (.iconst 2, 1) := by decide +kernel
theorem dX6_isFree_19 : decode cX6_isFree 19 = .ok (.invokestatic 79, 3) := by decide +kernel
theorem dX6_isFree_22 : decode cX6_isFree 22 = .ok (.iaload, 1) := by decide +kernel
theorem dX6_isFree_23 : decode cX6_isFree 23 = .ok (.ifCond .le 7, 3) := by decide +kernel
theorem dX6_isFree_26 : decode cX6_isFree 26 = .ok (.iconst 1, 1) := by decide +kernel
theorem dX6_isFree_27 : decode cX6_isFree 27 = .ok (.goto 4, 3) := by decide +kernel
theorem dX6_isFree_30 : decode cX6_isFree 30 = .ok (.iconst 0, 1) := by decide +kernel
theorem dX6_isFree_31 : decode cX6_isFree 31 = .ok (.ireturn, 1) := by decide +kernel
theorem dX6_dispute_0 : decode cX6_dispute 0 = .ok (.aload_n 0, 1) := by decide +kernel
theorem dX6_dispute_1 : decode cX6_dispute 1 = .ok (.iload_n 1, 1) := by decide +kernel
theorem dX6_dispute_2 : decode cX6_dispute 2 = .ok (.invokevirtual 160, 3) := by decide +kernel
theorem dX6_dispute_5 : decode cX6_dispute 5 = .ok (.istore_n 2, 1) := by decide +kernel
theorem dX6_dispute_6 : decode cX6_dispute 6 = .ok (.aload_n 0, 1) := by decide +kernel
theorem dX6_dispute_7 : decode cX6_dispute 7 = .ok (.iload_n 2, 1) := by decide +kernel
theorem dX6_dispute_8 : decode cX6_dispute 8 = .ok (.ifCond .ne 7, 3) := by decide +kernel
theorem dX6_dispute_11 : decode cX6_dispute 11 = .ok (.iconst 1, 1) := by decide +kernel
theorem dX6_dispute_12 : decode cX6_dispute 12 = .ok (.goto 4, 3) := by decide +kernel
theorem dX6_dispute_15 : decode cX6_dispute 15 = .ok (.iconst 0, 1) := by decide +kernel
theorem dX6_dispute_16 : decode cX6_dispute 16 = .ok (.iload_n 2, 1) := by decide +kernel
theorem dX6_dispute_17 : decode cX6_dispute 17 = .ok (.ifCond .eq 15, 3) := by decide +kernel
theorem dX6_dispute_20 : decode cX6_dispute 20 = .ok (.aload_n 0, 1) := by decide +kernel
theorem dX6_dispute_21 : decode cX6_dispute 21 = .ok (.iload_n 1, 1) := by decide +kernel
theorem dX6_dispute_22 : decode cX6_dispute 22 = .ok (.invokevirtual 163, 3) := by decide +kernel
theorem dX6_dispute_25 : decode cX6_dispute 25 = .ok (.ifCond .ne 7, 3) := by decide +kernel
theorem dX6_dispute_28 : decode cX6_dispute 28 = .ok (.iconst 1, 1) := by decide +kernel
theorem dX6_dispute_29 : decode cX6_dispute 29 = .ok (.goto 4, 3) := by decide +kernel
theorem dX6_dispute_32 : decode cX6_dispute 32 = .ok (.iconst 0, 1) := by decide +kernel
theorem dX6_dispute_33 : decode cX6_dispute 33 = .ok (.iconst 0, 1) := by decide +kernel
theorem dX6_dispute_34 : decode cX6_dispute 34 = .ok (.invokevirtual 146, 3) := by decide +kernel
theorem dX6_dispute_37 : decode cX6_dispute 37 = .ok (.ifCond .ne 5, 3) := by decide +kernel
theorem dX6_dispute_40 : decode cX6_dispute 40 = .ok (.iconst 0, 1) := by decide +kernel
theorem dX6_dispute_41 : decode cX6_dispute 41 = .ok (.ireturn, 1) := by decide +kernel
theorem dX6_dispute_42 : decode cX6_dispute 42 = .ok (.aload_n 0, 1) := by decide +kernel
theorem dX6_dispute_43 : decode cX6_dispute 43 = .ok (.aload_n 0, 1) := by decide +kernel
theorem dX6_dispute_44 : decode cX6_dispute 44 = .ok (.getfield 7, 3) := by decide +kernel
theorem dX6_dispute_47 : decode cX6_dispute 47 = .ok (.iconst (-1), 1) := by decide +kernel
theorem dX6_dispute_48 : decode cX6_dispute 48 = .ok (.invokevirtual 166, 3) := by decide +kernel
theorem dX6_dispute_51 : decode cX6_dispute 51 = .ok (.istore_n 3, 1) := by decide +kernel
theorem dX6_dispute_52 : decode cX6_dispute 52 = .ok (.aload_n 0, 1) := by decide +kernel
theorem dX6_dispute_53 : decode cX6_dispute 53 = .ok (.invokevirtual 150, 3) := by decide +kernel
theorem dX6_dispute_56 : decode cX6_dispute 56 = .ok (.aload_n 0, 1) := by decide +kernel
theorem dX6_dispute_57 : decode cX6_dispute 57 = .ok (.getfield 7, 3) := by decide +kernel
theorem dX6_dispute_60 : decode cX6_dispute 60 = .ok (.iload_n 1, 1) := by decide +kernel
theorem dX6_dispute_61 : decode cX6_dispute 61 = .ok (.iconst 4, 1) := by decide +kernel
theorem dX6_dispute_62 : decode cX6_dispute 62 = .ok (.invokestatic 79, 3) := by decide +kernel
theorem dX6_dispute_65 : decode cX6_dispute 65 = .ok (.iconst 1, 1) := by decide +kernel
theorem dX6_dispute_66 : decode cX6_dispute 66 = .ok (.iastore, 1) := by decide +kernel
theorem dX6_dispute_67 : decode cX6_dispute 67 = .ok (.iload_n 3, 1) := by decide +kernel
theorem dX6_dispute_68 : decode cX6_dispute 68 = .ok (.aload_n 0, 1) := by decide +kernel
theorem dX6_dispute_69 : decode cX6_dispute 69 = .ok (.aload_n 0, 1) := by decide +kernel
theorem dX6_dispute_70 : decode cX6_dispute 70 = .ok (.getfield 7, 3) := by decide +kernel
theorem dX6_dispute_73 : decode cX6_dispute 73 = .ok (.iconst (-1), 1) := by decide +kernel
theorem dX6_dispute_74 : decode cX6_dispute 74 = .ok (.invokevirtual 166, 3) := by decide +kernel
theorem dX6_dispute_77 : decode cX6_dispute 77 = .ok (.isub, 1) := by decide +kernel
theorem dX6_dispute_78 : decode cX6_dispute 78 = .ok (.ireturn, 1) := by decide +kernel
theorem dX6_settle_0 : decode cX6_settle 0 = .ok (.aload_n 0, 1) := by decide +kernel
theorem dX6_settle_1 : decode cX6_settle 1 = .ok (.iload_n 1, 1) := by decide +kernel
theorem dX6_settle_2 : decode cX6_settle 2 = .ok (.invokevirtual 160, 3) := by decide +kernel
theorem dX6_settle_5 : decode cX6_settle 5 = .ok (.istore_n 2, 1) := by decide +kernel
theorem dX6_settle_6 : decode cX6_settle 6 = .ok (.aload_n 0, 1) := by decide +kernel
theorem dX6_settle_7 : decode cX6_settle 7 = .ok (.iload_n 2, 1) := by decide +kernel
theorem dX6_settle_8 : decode cX6_settle 8 = .ok (.ifCond .ne 7, 3) := by decide +kernel
theorem dX6_settle_11 : decode cX6_settle 11 = .ok (.iconst 1, 1) := by decide +kernel
theorem dX6_settle_12 : decode cX6_settle 12 = .ok (.goto 4, 3) := by decide +kernel
theorem dX6_settle_15 : decode cX6_settle 15 = .ok (.iconst 0, 1) := by decide +kernel
theorem dX6_settle_16 : decode cX6_settle 16 = .ok (.iload_n 2, 1) := by decide +kernel
theorem dX6_settle_17 : decode cX6_settle 17 = .ok (.ifCond .eq 20, 3) := by decide +kernel
theorem dX6_settle_20 : decode cX6_settle 20 = .ok (.aload_n 0, 1) := by decide +kernel
theorem dX6_settle_21 : decode cX6_settle 21 = .ok (.getfield 7, 3) := by decide +kernel
theorem dX6_settle_24 : decode cX6_settle 24 = .ok (.iload_n 1, 1) := by decide +kernel
theorem dX6_settle_25 : decode cX6_settle 25 = .ok (.iconst 4, 1) := by decide +kernel
theorem dX6_settle_26 : decode cX6_settle 26 = .ok (.invokestatic 79, 3) := by decide +kernel
theorem dX6_settle_29 : decode cX6_settle 29 = .ok (.iaload, 1) := by decide +kernel
theorem dX6_settle_30 : decode cX6_settle 30 = .ok (.ifCond .ne 7, 3) := by decide +kernel
theorem dX6_settle_33 : decode cX6_settle 33 = .ok (.iconst 1, 1) := by decide +kernel
theorem dX6_settle_34 : decode cX6_settle 34 = .ok (.goto 4, 3) := by decide +kernel
theorem dX6_settle_37 : decode cX6_settle 37 = .ok (.iconst 0, 1) := by decide +kernel
theorem dX6_settle_38 : decode cX6_settle 38 = .ok (.iconst 0, 1) := by decide +kernel
theorem dX6_settle_39 : decode cX6_settle 39 = .ok (.invokevirtual 146, 3) := by decide +kernel
theorem dX6_settle_42 : decode cX6_settle 42 = .ok (.ifCond .ne 5, 3) := by decide +kernel
theorem dX6_settle_45 : decode cX6_settle 45 = .ok (.iconst 0, 1) := by decide +kernel
theorem dX6_settle_46 : decode cX6_settle 46 = .ok (.ireturn, 1) := by decide +kernel
theorem dX6_settle_47 : decode cX6_settle 47 = .ok (.aload_n 0, 1) := by decide +kernel
theorem dX6_settle_48 : decode cX6_settle 48 = .ok (.invokevirtual 150, 3) := by decide +kernel
theorem dX6_settle_51 : decode cX6_settle 51 = .ok (.aload_n 0, 1) := by decide +kernel
theorem dX6_settle_52 : decode cX6_settle 52 = .ok (.getfield 7, 3) := by decide +kernel
theorem dX6_settle_55 : decode cX6_settle 55 = .ok (.iload_n 1, 1) := by decide +kernel
theorem dX6_settle_56 : decode cX6_settle 56 = .ok (.iconst 4, 1) := by decide +kernel
theorem dX6_settle_57 : decode cX6_settle 57 = .ok (.invokestatic 79, 3) := by decide +kernel
theorem dX6_settle_60 : decode cX6_settle 60 = .ok (.iconst 0, 1) := by decide +kernel
theorem dX6_settle_61 : decode cX6_settle 61 = .ok (.iastore, 1) := by decide +kernel
theorem dX6_settle_62 : decode cX6_settle 62 = .ok (.aload_n 0, 1) := by decide +kernel
theorem dX6_settle_63 : decode cX6_settle 63 = .ok (.aload_n 0, 1) := by decide +kernel
theorem dX6_settle_64 : decode cX6_settle 64 = .ok (.getfield 7, 3) := by decide +kernel
theorem dX6_settle_67 : decode cX6_settle 67 = .ok (.iconst (-1), 1) := by decide +kernel
theorem dX6_settle_68 : decode cX6_settle 68 = .ok (.invokevirtual 166, 3) := by decide +kernel
theorem dX6_settle_71 : decode cX6_settle 71 = .ok (.ireturn, 1) := by decide +kernel
theorem dX6_discharge_0 : decode cX6_discharge 0 = .ok (.aload_n 0, 1) := by decide +kernel
theorem dX6_discharge_1 : decode cX6_discharge 1 = .ok (.iload_n 1, 1) := by decide +kernel
theorem dX6_discharge_2 : decode cX6_discharge 2 = .ok (.invokevirtual 169, 3) := by decide +kernel
theorem dX6_discharge_5 : decode cX6_discharge 5 = .ok (.istore_n 3, 1) := by decide +kernel
theorem dX6_discharge_6 : decode cX6_discharge 6 = .ok (.aload_n 0, 1) := by decide +kernel
theorem dX6_discharge_7 : decode cX6_discharge 7 = .ok (.iload_n 3, 1) := by decide +kernel
theorem dX6_discharge_8 : decode cX6_discharge 8 = .ok (.ifCond .ne 7, 3) := by decide +kernel
theorem dX6_discharge_11 : decode cX6_discharge 11 = .ok (.iconst 1, 1) := by decide +kernel
theorem dX6_discharge_12 : decode cX6_discharge 12 = .ok (.goto 4, 3) := by decide +kernel
theorem dX6_discharge_15 : decode cX6_discharge 15 = .ok (.iconst 0, 1) := by decide +kernel
theorem dX6_discharge_16 : decode cX6_discharge 16 = .ok (.iload_n 2, 1) := by decide +kernel
theorem dX6_discharge_17 : decode cX6_discharge 17 = .ok (.iconst 1, 1) := by decide +kernel
theorem dX6_discharge_18 : decode cX6_discharge 18 = .ok (.if_icmp .ge 7, 3) := by decide +kernel
theorem dX6_discharge_21 : decode cX6_discharge 21 = .ok (.iconst 1, 1) := by decide +kernel
theorem dX6_discharge_22 : decode cX6_discharge 22 = .ok (.goto 4, 3) := by decide +kernel
theorem dX6_discharge_25 : decode cX6_discharge 25 = .ok (.iconst 0, 1) := by decide +kernel
theorem dX6_discharge_26 : decode cX6_discharge 26 = .ok (.iload_n 3, 1) := by decide +kernel
theorem dX6_discharge_27 : decode cX6_discharge 27 = .ok (.ifCond .eq 15, 3) := by decide +kernel
theorem dX6_discharge_30 : decode cX6_discharge 30 = .ok (.iload_n 2, 1) := by decide +kernel
theorem dX6_discharge_31 : decode cX6_discharge 31 = .ok (.aload_n 0, 1) := by decide +kernel
theorem dX6_discharge_32 : decode cX6_discharge 32 = .ok (.invokevirtual 127, 3) := by decide +kernel
theorem dX6_discharge_35 : decode cX6_discharge 35 = .ok (.if_icmp .le 7, 3) := by decide +kernel
theorem dX6_discharge_38 : decode cX6_discharge 38 = .ok (.iconst 1, 1) := by decide +kernel
theorem dX6_discharge_39 : decode cX6_discharge 39 = .ok (.goto 4, 3) := by decide +kernel
theorem dX6_discharge_42 : decode cX6_discharge 42 = .ok (.iconst 0, 1) := by decide +kernel
theorem dX6_discharge_43 : decode cX6_discharge 43 = .ok (.invokevirtual 146, 3) := by decide +kernel
theorem dX6_discharge_46 : decode cX6_discharge 46 = .ok (.ifCond .ne 5, 3) := by decide +kernel
theorem dX6_discharge_49 : decode cX6_discharge 49 = .ok (.iconst 0, 1) := by decide +kernel
theorem dX6_discharge_50 : decode cX6_discharge 50 = .ok (.ireturn, 1) := by decide +kernel
theorem dX6_discharge_51 : decode cX6_discharge 51 = .ok (.aload_n 0, 1) := by decide +kernel
theorem dX6_discharge_52 : decode cX6_discharge 52 = .ok (.invokevirtual 150, 3) := by decide +kernel
theorem dX6_discharge_55 : decode cX6_discharge 55 = .ok (.aload_n 0, 1) := by decide +kernel
theorem dX6_discharge_56 : decode cX6_discharge 56 = .ok (.aload_n 0, 1) := by decide +kernel
theorem dX6_discharge_57 : decode cX6_discharge 57 = .ok (.getfield 7, 3) := by decide +kernel
theorem dX6_discharge_60 : decode cX6_discharge 60 = .ok (.iload_n 2, 1) := by decide +kernel
theorem dX6_discharge_61 : decode cX6_discharge 61 = .ok (.invokevirtual 134, 3) := by decide +kernel
theorem dX6_discharge_64 : decode cX6_discharge 64 = .ok (.ireturn, 1) := by decide +kernel
theorem dX6_dischargeBest_0 : decode cX6_dischargeBest 0 = .ok (.aload_n 0, 1) := by decide +kernel
theorem dX6_dischargeBest_1 : decode cX6_dischargeBest 1 = .ok (.aload_n 0, 1) := by decide +kernel
theorem dX6_dischargeBest_2 : decode cX6_dischargeBest 2 = .ok (.aload_n 0, 1) := by decide +kernel
theorem dX6_dischargeBest_3 : decode cX6_dischargeBest 3 = .ok (.getfield 7, 3) := by decide +kernel
theorem dX6_dischargeBest_6 : decode cX6_dischargeBest 6 = .ok (.invokevirtual 138, 3) := by decide +kernel
theorem dX6_dischargeBest_9 : decode cX6_dischargeBest 9 = .ok (.ifCond .ne 7, 3) := by decide +kernel
theorem dX6_dischargeBest_12 : decode cX6_dischargeBest 12 = .ok (.iconst 1, 1) := by decide +kernel
theorem dX6_dischargeBest_13 : decode cX6_dischargeBest 13 = .ok (.goto 4, 3) := by decide +kernel
theorem dX6_dischargeBest_16 : decode cX6_dischargeBest 16 = .ok (.iconst 0, 1) := by decide +kernel
theorem dX6_dischargeBest_17 : decode cX6_dischargeBest 17 = .ok (.iconst 0, 1) := by decide +kernel
theorem dX6_dischargeBest_18 : decode cX6_dischargeBest 18 = .ok (.iconst 0, 1) := by decide +kernel
theorem dX6_dischargeBest_19 : decode cX6_dischargeBest 19 = .ok (.invokevirtual 146, 3) := by decide +kernel
theorem dX6_dischargeBest_22 : decode cX6_dischargeBest 22 = .ok (.ifCond .ne 5, 3) := by decide +kernel
theorem dX6_dischargeBest_25 : decode cX6_dischargeBest 25 = .ok (.iconst 0, 1) := by decide +kernel
theorem dX6_dischargeBest_26 : decode cX6_dischargeBest 26 = .ok (.ireturn, 1) := by decide +kernel
theorem dX6_dischargeBest_27 : decode cX6_dischargeBest 27 = .ok (.aload_n 0, 1) := by decide +kernel
theorem dX6_dischargeBest_28 : decode cX6_dischargeBest 28 = .ok (.invokevirtual 150, 3) := by decide +kernel
theorem dX6_dischargeBest_31 : decode cX6_dischargeBest 31 = .ok (.aload_n 0, 1) := by decide +kernel
theorem dX6_dischargeBest_32 : decode cX6_dischargeBest 32 = .ok (.aload_n 0, 1) := by decide +kernel
theorem dX6_dischargeBest_33 : decode cX6_dischargeBest 33 = .ok (.getfield 7, 3) := by decide +kernel
theorem dX6_dischargeBest_36 : decode cX6_dischargeBest 36 = .ok (.invokevirtual 142, 3) := by decide +kernel
theorem dX6_dischargeBest_39 : decode cX6_dischargeBest 39 = .ok (.aload_n 0, 1) := by decide +kernel
theorem dX6_dischargeBest_40 : decode cX6_dischargeBest 40 = .ok (.getfield 124, 3) := by decide +kernel
theorem dX6_dischargeBest_43 : decode cX6_dischargeBest 43 = .ok (.ireturn, 1) := by decide +kernel
theorem dX6_dischargeAll_0 : decode cX6_dischargeAll 0 = .ok (.aload_n 0, 1) := by decide +kernel
theorem dX6_dischargeAll_1 : decode cX6_dischargeAll 1 = .ok (.iconst 0, 1) := by decide +kernel
theorem dX6_dischargeAll_2 : decode cX6_dischargeAll 2 = .ok (.iconst 0, 1) := by decide +kernel
theorem dX6_dischargeAll_3 : decode cX6_dischargeAll 3 = .ok (.iconst 0, 1) := by decide +kernel
theorem dX6_dischargeAll_4 : decode cX6_dischargeAll 4 = .ok (.invokevirtual 146, 3) := by decide +kernel
theorem dX6_dischargeAll_7 : decode cX6_dischargeAll 7 = .ok (.pop, 1) := by decide +kernel
theorem dX6_dischargeAll_8 : decode cX6_dischargeAll 8 = .ok (.aload_n 0, 1) := by decide +kernel
theorem dX6_dischargeAll_9 : decode cX6_dischargeAll 9 = .ok (.invokevirtual 150, 3) := by decide +kernel
theorem dX6_dischargeAll_12 : decode cX6_dischargeAll 12 = .ok (.aload_n 0, 1) := by decide +kernel
theorem dX6_dischargeAll_13 : decode cX6_dischargeAll 13 = .ok (.aload_n 0, 1) := by decide +kernel
theorem dX6_dischargeAll_14 : decode cX6_dischargeAll 14 = .ok (.getfield 7, 3) := by decide +kernel
theorem dX6_dischargeAll_17 : decode cX6_dischargeAll 17 = .ok (.invokevirtual 172, 3) := by decide +kernel
theorem dX6_dischargeAll_20 : decode cX6_dischargeAll 20 = .ok (.ireturn, 1) := by decide +kernel
theorem dX6_promiseOf_0 : decode cX6_promiseOf 0 = .ok (.aload_n 0, 1) := by decide +kernel
theorem dX6_promiseOf_1 : decode cX6_promiseOf 1 = .ok (.aload_n 0, 1) := by decide +kernel
theorem dX6_promiseOf_2 : decode cX6_promiseOf 2 = .ok (.iload_n 1, 1) := by decide +kernel
theorem dX6_promiseOf_3 : decode cX6_promiseOf 3 = .ok (.invokevirtual 160, 3) := by decide +kernel
theorem dX6_promiseOf_6 : decode cX6_promiseOf 6 = .ok (.ifCond .ne 7, 3) := by decide +kernel
theorem dX6_promiseOf_9 : decode cX6_promiseOf 9 = .ok (.iconst 1, 1) := by decide +kernel
theorem dX6_promiseOf_10 : decode cX6_promiseOf 10 = .ok (.goto 4, 3) := by decide +kernel
theorem dX6_promiseOf_13 : decode cX6_promiseOf 13 = .ok (.iconst 0, 1) := by decide +kernel
theorem dX6_promiseOf_14 : decode cX6_promiseOf 14 = .ok (.iload_n 2, 1) := by decide +kernel
theorem dX6_promiseOf_15 : decode cX6_promiseOf 15 = .ok (.iconst 0, 1) := by decide +kernel
theorem dX6_promiseOf_16 : decode cX6_promiseOf 16 = .ok (.bipush 7, 2) := by decide +kernel
theorem dX6_promiseOf_18 : decode cX6_promiseOf 18 = .ok (.invokestatic 68, 3) := by decide +kernel
theorem dX6_promiseOf_21 : decode cX6_promiseOf 21 = .ok (.ifCond .ne 7, 3) := by decide +kernel
theorem dX6_promiseOf_24 : decode cX6_promiseOf 24 = .ok (.iconst 1, 1) := by decide +kernel
theorem dX6_promiseOf_25 : decode cX6_promiseOf 25 = .ok (.goto 4, 3) := by decide +kernel
theorem dX6_promiseOf_28 : decode cX6_promiseOf 28 = .ok (.iconst 0, 1) := by decide +kernel
theorem dX6_promiseOf_29 : decode cX6_promiseOf 29 = .ok (.iconst 0, 1) := by decide +kernel
theorem dX6_promiseOf_30 : decode cX6_promiseOf 30 = .ok (.invokevirtual 146, 3) := by decide +kernel
theorem dX6_promiseOf_33 : decode cX6_promiseOf 33 = .ok (.ifCond .eq 16, 3) := by decide +kernel
theorem dX6_promiseOf_36 : decode cX6_promiseOf 36 = .ok (.aload_n 0, 1) := by decide +kernel
theorem dX6_promiseOf_37 : decode cX6_promiseOf 37 = .ok (.getfield 7, 3) := by decide +kernel
theorem dX6_promiseOf_40 : decode cX6_promiseOf 40 = .ok (.iload_n 1, 1) := by decide +kernel
theorem dX6_promiseOf_41 : decode cX6_promiseOf 41 = .ok (.iload_n 2, 1) := by decide +kernel
theorem dX6_promiseOf_42 : decode cX6_promiseOf 42 = .ok (.invokestatic 79, 3) := by decide +kernel
theorem dX6_promiseOf_45 : decode cX6_promiseOf 45 = .ok (.iaload, 1) := by decide +kernel
theorem dX6_promiseOf_46 : decode cX6_promiseOf 46 = .ok (.goto 4, 3) := by decide +kernel
theorem dX6_promiseOf_49 : decode cX6_promiseOf 49 = .ok (.iconst 0, 1) := by decide +kernel
theorem dX6_promiseOf_50 : decode cX6_promiseOf 50 = .ok (.ireturn, 1) := by decide +kernel
theorem dX6_debtOf_0 : decode cX6_debtOf 0 = .ok (.aload_n 0, 1) := by decide +kernel
theorem dX6_debtOf_1 : decode cX6_debtOf 1 = .ok (.aload_n 0, 1) := by decide +kernel
theorem dX6_debtOf_2 : decode cX6_debtOf 2 = .ok (.getfield 7, 3) := by decide +kernel
theorem dX6_debtOf_5 : decode cX6_debtOf 5 = .ok (.iconst (-1), 1) := by decide +kernel
theorem dX6_debtOf_6 : decode cX6_debtOf 6 = .ok (.invokevirtual 96, 3) := by decide +kernel
theorem dX6_debtOf_9 : decode cX6_debtOf 9 = .ok (.aload_n 0, 1) := by decide +kernel
theorem dX6_debtOf_10 : decode cX6_debtOf 10 = .ok (.getfield 22, 3) := by decide +kernel
theorem dX6_debtOf_13 : decode cX6_debtOf 13 = .ok (.bipush 7, 2) := by decide +kernel
theorem dX6_debtOf_15 : decode cX6_debtOf 15 = .ok (.iload_n 1, 1) := by decide +kernel
theorem dX6_debtOf_16 : decode cX6_debtOf 16 = .ok (.imul, 1) := by decide +kernel
theorem dX6_debtOf_17 : decode cX6_debtOf 17 = .ok (.iload_n 2, 1) := by decide +kernel
theorem dX6_debtOf_18 : decode cX6_debtOf 18 = .ok (.iadd, 1) := by decide +kernel
theorem dX6_debtOf_19 : decode cX6_debtOf 19 = .ok (.iaload, 1) := by decide +kernel
theorem dX6_debtOf_20 : decode cX6_debtOf 20 = .ok (.ireturn, 1) := by decide +kernel
theorem dX6_debt_0 : decode cX6_debt 0 = .ok (.aload_n 0, 1) := by decide +kernel
theorem dX6_debt_1 : decode cX6_debt 1 = .ok (.aload_n 0, 1) := by decide +kernel
theorem dX6_debt_2 : decode cX6_debt 2 = .ok (.iload_n 1, 1) := by decide +kernel
theorem dX6_debt_3 : decode cX6_debt 3 = .ok (.invokevirtual 153, 3) := by decide +kernel
theorem dX6_debt_6 : decode cX6_debt 6 = .ok (.ifCond .eq 11, 3) := by decide +kernel
theorem dX6_debt_9 : decode cX6_debt 9 = .ok (.aload_n 0, 1) := by decide +kernel
theorem dX6_debt_10 : decode cX6_debt 10 = .ok (.iload_n 2, 1) := by decide +kernel
theorem dX6_debt_11 : decode cX6_debt 11 = .ok (.invokevirtual 153, 3) := by decide +kernel
theorem dX6_debt_14 : decode cX6_debt 14 = .ok (.ifCond .ne 7, 3) := by decide +kernel
theorem dX6_debt_17 : decode cX6_debt 17 = .ok (.iconst 1, 1) := by decide +kernel
theorem dX6_debt_18 : decode cX6_debt 18 = .ok (.goto 4, 3) := by decide +kernel
theorem dX6_debt_21 : decode cX6_debt 21 = .ok (.iconst 0, 1) := by decide +kernel
theorem dX6_debt_22 : decode cX6_debt 22 = .ok (.iconst 0, 1) := by decide +kernel
theorem dX6_debt_23 : decode cX6_debt 23 = .ok (.iconst 0, 1) := by decide +kernel
theorem dX6_debt_24 : decode cX6_debt 24 = .ok (.invokevirtual 146, 3) := by decide +kernel
theorem dX6_debt_27 : decode cX6_debt 27 = .ok (.ifCond .eq 12, 3) := by decide +kernel
theorem dX6_debt_30 : decode cX6_debt 30 = .ok (.aload_n 0, 1) := by decide +kernel
theorem dX6_debt_31 : decode cX6_debt 31 = .ok (.iload_n 1, 1) := by decide +kernel
theorem dX6_debt_32 : decode cX6_debt 32 = .ok (.iload_n 2, 1) := by decide +kernel
theorem dX6_debt_33 : decode cX6_debt 33 = .ok (.invokevirtual 176, 3) := by decide +kernel
theorem dX6_debt_36 : decode cX6_debt 36 = .ok (.goto 4, 3) := by decide +kernel
theorem dX6_debt_39 : decode cX6_debt 39 = .ok (.iconst 0, 1) := by decide +kernel
theorem dX6_debt_40 : decode cX6_debt 40 = .ok (.ireturn, 1) := by decide +kernel
theorem dX6_netOf_0 : decode cX6_netOf 0 = .ok (.iconst 0, 1) := by decide +kernel
theorem dX6_netOf_1 : decode cX6_netOf 1 = .ok (.istore_n 2, 1) := by decide +kernel
theorem dX6_netOf_2 : decode cX6_netOf 2 = .ok (.iconst 0, 1) := by decide +kernel
theorem dX6_netOf_3 : decode cX6_netOf 3 = .ok (.istore_n 3, 1) := by decide +kernel
theorem dX6_netOf_4 : decode cX6_netOf 4 = .ok (.iload_n 3, 1) := by decide +kernel
theorem dX6_netOf_5 : decode cX6_netOf 5 = .ok (.aload_n 0, 1) := by decide +kernel
theorem dX6_netOf_6 : decode cX6_netOf 6 = .ok (.getfield 7, 3) := by decide +kernel
theorem dX6_netOf_9 : decode cX6_netOf 9 = .ok (.iconst 1, 1) := by decide +kernel
theorem dX6_netOf_10 : decode cX6_netOf 10 = .ok (.iaload, 1) := by decide +kernel
theorem dX6_netOf_11 : decode cX6_netOf 11 = .ok (.if_icmp .ge 71, 3) := by decide +kernel
theorem dX6_netOf_14 : decode cX6_netOf 14 = .ok (.iload_n 2, 1) := by decide +kernel
theorem dX6_netOf_15 : decode cX6_netOf 15 = .ok (.aload_n 0, 1) := by decide +kernel
theorem dX6_netOf_16 : decode cX6_netOf 16 = .ok (.getfield 7, 3) := by decide +kernel
theorem dX6_netOf_19 : decode cX6_netOf 19 = .ok (.iload_n 3, 1) := by decide +kernel
theorem dX6_netOf_20 : decode cX6_netOf 20 = .ok (.iconst 1, 1) := by decide +kernel
theorem dX6_netOf_21 : decode cX6_netOf 21 = .ok (.invokestatic 79, 3) := by decide +kernel
theorem dX6_netOf_24 : decode cX6_netOf 24 = .ok (.iaload, 1) := by decide +kernel
theorem dX6_netOf_25 : decode cX6_netOf 25 = .ok (.iload_n 1, 1) := by decide +kernel
theorem dX6_netOf_26 : decode cX6_netOf 26 = .ok (.if_icmp .ne 16, 3) := by decide +kernel
theorem dX6_netOf_29 : decode cX6_netOf 29 = .ok (.aload_n 0, 1) := by decide +kernel
theorem dX6_netOf_30 : decode cX6_netOf 30 = .ok (.getfield 7, 3) := by decide +kernel
theorem dX6_netOf_33 : decode cX6_netOf 33 = .ok (.iload_n 3, 1) := by decide +kernel
theorem dX6_netOf_34 : decode cX6_netOf 34 = .ok (.iconst 2, 1) := by decide +kernel
theorem dX6_netOf_35 : decode cX6_netOf 35 = .ok (.invokestatic 79, 3) := by decide +kernel
theorem dX6_netOf_38 : decode cX6_netOf 38 = .ok (.iaload, 1) := by decide +kernel
theorem dX6_netOf_39 : decode cX6_netOf 39 = .ok (.goto 4, 3) := by decide +kernel
theorem dX6_netOf_42 : decode cX6_netOf 42 = .ok (.iconst 0, 1) := by decide +kernel
theorem dX6_netOf_43 : decode cX6_netOf 43 = .ok (.iadd, 1) := by decide +kernel
theorem dX6_netOf_44 : decode cX6_netOf 44 = .ok (.istore_n 2, 1) := by decide +kernel
theorem dX6_netOf_45 : decode cX6_netOf 45 = .ok (.iload_n 2, 1) := by decide +kernel
theorem dX6_netOf_46 : decode cX6_netOf 46 = .ok (.aload_n 0, 1) := by decide +kernel
theorem dX6_netOf_47 : decode cX6_netOf 47 = .ok (.getfield 7, 3) := by decide +kernel
theorem dX6_netOf_50 : decode cX6_netOf 50 = .ok (.iload_n 3, 1) := by decide +kernel
theorem dX6_netOf_51 : decode cX6_netOf 51 = .ok (.iconst 0, 1) := by decide +kernel
theorem dX6_netOf_52 : decode cX6_netOf 52 = .ok (.invokestatic 79, 3) := by decide +kernel
theorem dX6_netOf_55 : decode cX6_netOf 55 = .ok (.iaload, 1) := by decide +kernel
theorem dX6_netOf_56 : decode cX6_netOf 56 = .ok (.iload_n 1, 1) := by decide +kernel
theorem dX6_netOf_57 : decode cX6_netOf 57 = .ok (.if_icmp .ne 16, 3) := by decide +kernel
theorem dX6_netOf_60 : decode cX6_netOf 60 = .ok (.aload_n 0, 1) := by decide +kernel
theorem dX6_netOf_61 : decode cX6_netOf 61 = .ok (.getfield 7, 3) := by decide +kernel
theorem dX6_netOf_64 : decode cX6_netOf 64 = .ok (.iload_n 3, 1) := by decide +kernel
theorem dX6_netOf_65 : decode cX6_netOf 65 = .ok (.iconst 2, 1) := by decide +kernel
theorem dX6_netOf_66 : decode cX6_netOf 66 = .ok (.invokestatic 79, 3) := by decide +kernel
theorem dX6_netOf_69 : decode cX6_netOf 69 = .ok (.iaload, 1) := by decide +kernel
theorem dX6_netOf_70 : decode cX6_netOf 70 = .ok (.goto 4, 3) := by decide +kernel
theorem dX6_netOf_73 : decode cX6_netOf 73 = .ok (.iconst 0, 1) := by decide +kernel
theorem dX6_netOf_74 : decode cX6_netOf 74 = .ok (.isub, 1) := by decide +kernel
theorem dX6_netOf_75 : decode cX6_netOf 75 = .ok (.istore_n 2, 1) := by decide +kernel
theorem dX6_netOf_76 : decode cX6_netOf 76 = .ok (.iinc 3 1, 3) := by decide +kernel
theorem dX6_netOf_79 : decode cX6_netOf 79 = .ok (.goto (-75), 3) := by decide +kernel
theorem dX6_netOf_82 : decode cX6_netOf 82 = .ok (.iload_n 2, 1) := by decide +kernel
theorem dX6_netOf_83 : decode cX6_netOf 83 = .ok (.ireturn, 1) := by decide +kernel
theorem dX6_net_0 : decode cX6_net 0 = .ok (.aload_n 0, 1) := by decide +kernel
theorem dX6_net_1 : decode cX6_net 1 = .ok (.aload_n 0, 1) := by decide +kernel
theorem dX6_net_2 : decode cX6_net 2 = .ok (.iload_n 1, 1) := by decide +kernel
theorem dX6_net_3 : decode cX6_net 3 = .ok (.invokevirtual 153, 3) := by decide +kernel
theorem dX6_net_6 : decode cX6_net 6 = .ok (.ifCond .ne 7, 3) := by decide +kernel
theorem dX6_net_9 : decode cX6_net 9 = .ok (.iconst 1, 1) := by decide +kernel
theorem dX6_net_10 : decode cX6_net 10 = .ok (.goto 4, 3) := by decide +kernel
theorem dX6_net_13 : decode cX6_net 13 = .ok (.iconst 0, 1) := by decide +kernel
theorem dX6_net_14 : decode cX6_net 14 = .ok (.iconst 0, 1) := by decide +kernel
theorem dX6_net_15 : decode cX6_net 15 = .ok (.iconst 0, 1) := by decide +kernel
theorem dX6_net_16 : decode cX6_net 16 = .ok (.invokevirtual 146, 3) := by decide +kernel
theorem dX6_net_19 : decode cX6_net 19 = .ok (.ifCond .eq 11, 3) := by decide +kernel
theorem dX6_net_22 : decode cX6_net 22 = .ok (.aload_n 0, 1) := by decide +kernel
theorem dX6_net_23 : decode cX6_net 23 = .ok (.iload_n 1, 1) := by decide +kernel
theorem dX6_net_24 : decode cX6_net 24 = .ok (.invokevirtual 179, 3) := by decide +kernel
theorem dX6_net_27 : decode cX6_net 27 = .ok (.goto 4, 3) := by decide +kernel
theorem dX6_net_30 : decode cX6_net 30 = .ok (.iconst 0, 1) := by decide +kernel
theorem dX6_net_31 : decode cX6_net 31 = .ok (.ireturn, 1) := by decide +kernel
theorem dX6_ring_0 : decode cX6_ring 0 = .ok (.aload_n 0, 1) := by decide +kernel
theorem dX6_ring_1 : decode cX6_ring 1 = .ok (.aload_n 0, 1) := by decide +kernel
theorem dX6_ring_2 : decode cX6_ring 2 = .ok (.iload_n 1, 1) := by decide +kernel
theorem dX6_ring_3 : decode cX6_ring 3 = .ok (.invokevirtual 169, 3) := by decide +kernel
theorem dX6_ring_6 : decode cX6_ring 6 = .ok (.ifCond .ne 7, 3) := by decide +kernel
theorem dX6_ring_9 : decode cX6_ring 9 = .ok (.iconst 1, 1) := by decide +kernel
theorem dX6_ring_10 : decode cX6_ring 10 = .ok (.goto 4, 3) := by decide +kernel
theorem dX6_ring_13 : decode cX6_ring 13 = .ok (.iconst 0, 1) := by decide +kernel
theorem dX6_ring_14 : decode cX6_ring 14 = .ok (.iload_n 2, 1) := by decide +kernel
theorem dX6_ring_15 : decode cX6_ring 15 = .ok (.iconst 0, 1) := by decide +kernel
theorem dX6_ring_16 : decode cX6_ring 16 = .ok (.bipush 6, 2) := by decide +kernel
theorem dX6_ring_18 : decode cX6_ring 18 = .ok (.invokestatic 68, 3) := by decide +kernel
theorem dX6_ring_21 : decode cX6_ring 21 = .ok (.ifCond .ne 7, 3) := by decide +kernel
theorem dX6_ring_24 : decode cX6_ring 24 = .ok (.iconst 1, 1) := by decide +kernel
theorem dX6_ring_25 : decode cX6_ring 25 = .ok (.goto 4, 3) := by decide +kernel
theorem dX6_ring_28 : decode cX6_ring 28 = .ok (.iconst 0, 1) := by decide +kernel
theorem dX6_ring_29 : decode cX6_ring 29 = .ok (.iconst 0, 1) := by decide +kernel
theorem dX6_ring_30 : decode cX6_ring 30 = .ok (.invokevirtual 146, 3) := by decide +kernel
theorem dX6_ring_33 : decode cX6_ring 33 = .ok (.ifCond .ne 5, 3) := by decide +kernel
theorem dX6_ring_36 : decode cX6_ring 36 = .ok (.iconst 0, 1) := by decide +kernel
theorem dX6_ring_37 : decode cX6_ring 37 = .ok (.ireturn, 1) := by decide +kernel
theorem dX6_ring_38 : decode cX6_ring 38 = .ok (.iload_n 2, 1) := by decide +kernel
theorem dX6_ring_39 : decode cX6_ring 39 = .ok (.aload_n 0, 1) := by decide +kernel
theorem dX6_ring_40 : decode cX6_ring 40 = .ok (.getfield 86, 3) := by decide +kernel
theorem dX6_ring_43 : decode cX6_ring 43 = .ok (.if_icmp .ge 12, 3) := by decide +kernel
theorem dX6_ring_46 : decode cX6_ring 46 = .ok (.aload_n 0, 1) := by decide +kernel
theorem dX6_ring_47 : decode cX6_ring 47 = .ok (.getfield 28, 3) := by decide +kernel
theorem dX6_ring_50 : decode cX6_ring 50 = .ok (.iload_n 2, 1) := by decide +kernel
theorem dX6_ring_51 : decode cX6_ring 51 = .ok (.iaload, 1) := by decide +kernel
theorem dX6_ring_52 : decode cX6_ring 52 = .ok (.goto 4, 3) := by decide +kernel
theorem dX6_ring_55 : decode cX6_ring 55 = .ok (.iconst (-1), 1) := by decide +kernel
theorem dX6_ring_56 : decode cX6_ring 56 = .ok (.ireturn, 1) := by decide +kernel
theorem dX6_room_0 : decode cX6_room 0 = .ok (.aload_n 0, 1) := by decide +kernel
theorem dX6_room_1 : decode cX6_room 1 = .ok (.aload_n 0, 1) := by decide +kernel
theorem dX6_room_2 : decode cX6_room 2 = .ok (.iload_n 1, 1) := by decide +kernel
theorem dX6_room_3 : decode cX6_room 3 = .ok (.invokevirtual 169, 3) := by decide +kernel
theorem dX6_room_6 : decode cX6_room 6 = .ok (.ifCond .ne 7, 3) := by decide +kernel
theorem dX6_room_9 : decode cX6_room 9 = .ok (.iconst 1, 1) := by decide +kernel
theorem dX6_room_10 : decode cX6_room 10 = .ok (.goto 4, 3) := by decide +kernel
theorem dX6_room_13 : decode cX6_room 13 = .ok (.iconst 0, 1) := by decide +kernel
theorem dX6_room_14 : decode cX6_room 14 = .ok (.iconst 0, 1) := by decide +kernel
theorem dX6_room_15 : decode cX6_room 15 = .ok (.iconst 0, 1) := by decide +kernel
theorem dX6_room_16 : decode cX6_room 16 = .ok (.invokevirtual 146, 3) := by decide +kernel
theorem dX6_room_19 : decode cX6_room 19 = .ok (.ifCond .eq 10, 3) := by decide +kernel
theorem dX6_room_22 : decode cX6_room 22 = .ok (.aload_n 0, 1) := by decide +kernel
theorem dX6_room_23 : decode cX6_room 23 = .ok (.invokevirtual 127, 3) := by decide +kernel
theorem dX6_room_26 : decode cX6_room 26 = .ok (.goto 4, 3) := by decide +kernel
theorem dX6_room_29 : decode cX6_room 29 = .ok (.iconst 0, 1) := by decide +kernel
theorem dX6_room_30 : decode cX6_room 30 = .ok (.ireturn, 1) := by decide +kernel
theorem dX6_costOf_0 : decode cX6_costOf 0 = .ok (.iconst 0, 1) := by decide +kernel
theorem dX6_costOf_1 : decode cX6_costOf 1 = .ok (.istore_n 1, 1) := by decide +kernel
theorem dX6_costOf_2 : decode cX6_costOf 2 = .ok (.iconst 0, 1) := by decide +kernel
theorem dX6_costOf_3 : decode cX6_costOf 3 = .ok (.istore_n 2, 1) := by decide +kernel
theorem dX6_costOf_4 : decode cX6_costOf 4 = .ok (.iload_n 2, 1) := by decide +kernel
theorem dX6_costOf_5 : decode cX6_costOf 5 = .ok (.aload_n 0, 1) := by decide +kernel
theorem dX6_costOf_6 : decode cX6_costOf 6 = .ok (.iconst 1, 1) := by decide +kernel
theorem dX6_costOf_7 : decode cX6_costOf 7 = .ok (.iaload, 1) := by decide +kernel
theorem dX6_costOf_8 : decode cX6_costOf 8 = .ok (.if_icmp .ge 27, 3) := by decide +kernel
theorem dX6_costOf_11 : decode cX6_costOf 11 = .ok (.iload_n 1, 1) := by decide +kernel
theorem dX6_costOf_12 : decode cX6_costOf 12 = .ok (.aload_n 0, 1) := by decide +kernel
theorem dX6_costOf_13 : decode cX6_costOf 13 = .ok (.iload_n 2, 1) := by decide +kernel
theorem dX6_costOf_14 : decode cX6_costOf 14 = .ok (.iconst 2, 1) := by decide +kernel
theorem dX6_costOf_15 : decode cX6_costOf 15 = .ok (.invokestatic 79, 3) := by decide +kernel
theorem dX6_costOf_18 : decode cX6_costOf 18 = .ok (.iaload, 1) := by decide +kernel
theorem dX6_costOf_19 : decode cX6_costOf 19 = .ok (.aload_n 0, 1) := by decide +kernel
theorem dX6_costOf_20 : decode cX6_costOf 20 = .ok (.iload_n 2, 1) := by decide +kernel
theorem dX6_costOf_21 : decode cX6_costOf 21 = .ok (.iconst 3, 1) := by decide +kernel
theorem dX6_costOf_22 : decode cX6_costOf 22 = .ok (.invokestatic 79, 3) := by decide +kernel
theorem dX6_costOf_25 : decode cX6_costOf 25 = .ok (.iaload, 1) := by decide +kernel
theorem dX6_costOf_26 : decode cX6_costOf 26 = .ok (.imul, 1) := by decide +kernel
theorem dX6_costOf_27 : decode cX6_costOf 27 = .ok (.iadd, 1) := by decide +kernel
theorem dX6_costOf_28 : decode cX6_costOf 28 = .ok (.istore_n 1, 1) := by decide +kernel
theorem dX6_costOf_29 : decode cX6_costOf 29 = .ok (.iinc 2 1, 3) := by decide +kernel
theorem dX6_costOf_32 : decode cX6_costOf 32 = .ok (.goto (-28), 3) := by decide +kernel
theorem dX6_costOf_35 : decode cX6_costOf 35 = .ok (.iload_n 1, 1) := by decide +kernel
theorem dX6_costOf_36 : decode cX6_costOf 36 = .ok (.ireturn, 1) := by decide +kernel
theorem dX6_one_0 : decode cX6_one 0 = .ok (.iconst 0, 1) := by decide +kernel
theorem dX6_one_1 : decode cX6_one 1 = .ok (.istore_n 2, 1) := by decide +kernel
theorem dX6_one_2 : decode cX6_one 2 = .ok (.iconst 0, 1) := by decide +kernel
theorem dX6_one_3 : decode cX6_one 3 = .ok (.istore_n 3, 1) := by decide +kernel
theorem dX6_one_4 : decode cX6_one 4 = .ok (.iconst 0, 1) := by decide +kernel
theorem dX6_one_5 : decode cX6_one 5 = .ok (.istore 4, 2) := by decide +kernel
theorem dX6_one_7 : decode cX6_one 7 = .ok (.iconst 0, 1) := by decide +kernel
theorem dX6_one_8 : decode cX6_one 8 = .ok (.istore 5, 2) := by decide +kernel
theorem dX6_one_10 : decode cX6_one 10 = .ok (.iconst 0, 1) := by decide +kernel
theorem dX6_one_11 : decode cX6_one 11 = .ok (.istore 6, 2) := by decide +kernel
theorem dX6_one_13 : decode cX6_one 13 = .ok (.iload 6, 2) := by decide +kernel
theorem dX6_one_15 : decode cX6_one 15 = .ok (.aload_n 0, 1) := by decide +kernel
theorem dX6_one_16 : decode cX6_one 16 = .ok (.getfield 7, 3) := by decide +kernel
theorem dX6_one_19 : decode cX6_one 19 = .ok (.iconst 1, 1) := by decide +kernel
theorem dX6_one_20 : decode cX6_one 20 = .ok (.iaload, 1) := by decide +kernel
theorem dX6_one_21 : decode cX6_one 21 = .ok (.if_icmp .ge 61, 3) := by decide +kernel
theorem dX6_one_24 : decode cX6_one 24 = .ok (.iload_n 2, 1) := by decide +kernel
theorem dX6_one_25 : decode cX6_one 25 = .ok (.aload_n 0, 1) := by decide +kernel
theorem dX6_one_26 : decode cX6_one 26 = .ok (.getfield 7, 3) := by decide +kernel
theorem dX6_one_29 : decode cX6_one 29 = .ok (.iload 6, 2) := by decide +kernel
theorem dX6_one_31 : decode cX6_one 31 = .ok (.iconst 2, 1) := by decide +kernel
theorem dX6_one_32 : decode cX6_one 32 = .ok (.invokestatic 79, 3) := by decide +kernel
theorem dX6_one_35 : decode cX6_one 35 = .ok (.iaload, 1) := by decide +kernel
theorem dX6_one_36 : decode cX6_one 36 = .ok (.ifCond .le 7, 3) := by decide +kernel
theorem dX6_one_39 : decode cX6_one 39 = .ok (.iconst 1, 1) := by decide +kernel
theorem dX6_one_40 : decode cX6_one 40 = .ok (.goto 4, 3) := by decide +kernel
theorem dX6_one_43 : decode cX6_one 43 = .ok (.iconst 0, 1) := by decide +kernel
theorem dX6_one_44 : decode cX6_one 44 = .ok (.iadd, 1) := by decide +kernel
theorem dX6_one_45 : decode cX6_one 45 = .ok (.istore_n 2, 1) := by decide +kernel
theorem dX6_one_46 : decode cX6_one 46 = .ok (.iload_n 3, 1) := by decide +kernel
theorem dX6_one_47 : decode cX6_one 47 = .ok (.aload_n 0, 1) := by decide +kernel
theorem dX6_one_48 : decode cX6_one 48 = .ok (.getfield 7, 3) := by decide +kernel
theorem dX6_one_51 : decode cX6_one 51 = .ok (.iload 6, 2) := by decide +kernel
theorem dX6_one_53 : decode cX6_one 53 = .ok (.iconst 4, 1) := by decide +kernel
theorem dX6_one_54 : decode cX6_one 54 = .ok (.invokestatic 79, 3) := by decide +kernel
theorem dX6_one_57 : decode cX6_one 57 = .ok (.iaload, 1) := by decide +kernel
theorem dX6_one_58 : decode cX6_one 58 = .ok (.iadd, 1) := by decide +kernel
theorem dX6_one_59 : decode cX6_one 59 = .ok (.istore_n 3, 1) := by decide +kernel
theorem dX6_one_60 : decode cX6_one 60 = .ok (.iload 4, 2) := by decide +kernel
theorem dX6_one_62 : decode cX6_one 62 = .ok (.aload_n 0, 1) := by decide +kernel
theorem dX6_one_63 : decode cX6_one 63 = .ok (.getfield 7, 3) := by decide +kernel
theorem dX6_one_66 : decode cX6_one 66 = .ok (.iload 6, 2) := by decide +kernel
theorem dX6_one_68 : decode cX6_one 68 = .ok (.iconst 2, 1) := by decide +kernel
theorem dX6_one_69 : decode cX6_one 69 = .ok (.invokestatic 79, 3) := by decide +kernel
theorem dX6_one_72 : decode cX6_one 72 = .ok (.iaload, 1) := by decide +kernel
theorem dX6_one_73 : decode cX6_one 73 = .ok (.iadd, 1) := by decide +kernel
theorem dX6_one_74 : decode cX6_one 74 = .ok (.istore 4, 2) := by decide +kernel
theorem dX6_one_76 : decode cX6_one 76 = .ok (.iinc 6 1, 3) := by decide +kernel
theorem dX6_one_79 : decode cX6_one 79 = .ok (.goto (-66), 3) := by decide +kernel
theorem dX6_one_82 : decode cX6_one 82 = .ok (.iconst 0, 1) := by decide +kernel
theorem dX6_one_83 : decode cX6_one 83 = .ok (.istore 6, 2) := by decide +kernel
theorem dX6_one_85 : decode cX6_one 85 = .ok (.iload 6, 2) := by decide +kernel
theorem dX6_one_87 : decode cX6_one 87 = .ok (.aload_n 0, 1) := by decide +kernel
theorem dX6_one_88 : decode cX6_one 88 = .ok (.getfield 7, 3) := by decide +kernel
theorem dX6_one_91 : decode cX6_one 91 = .ok (.iconst 0, 1) := by decide +kernel
theorem dX6_one_92 : decode cX6_one 92 = .ok (.iaload, 1) := by decide +kernel
theorem dX6_one_93 : decode cX6_one 93 = .ok (.if_icmp .ge 33, 3) := by decide +kernel
theorem dX6_one_96 : decode cX6_one 96 = .ok (.aload_n 0, 1) := by decide +kernel
theorem dX6_one_97 : decode cX6_one 97 = .ok (.iload 6, 2) := by decide +kernel
theorem dX6_one_99 : decode cX6_one 99 = .ok (.invokevirtual 179, 3) := by decide +kernel
theorem dX6_one_102 : decode cX6_one 102 = .ok (.istore 7, 2) := by decide +kernel
theorem dX6_one_104 : decode cX6_one 104 = .ok (.iload 5, 2) := by decide +kernel
theorem dX6_one_106 : decode cX6_one 106 = .ok (.iload 7, 2) := by decide +kernel
theorem dX6_one_108 : decode cX6_one 108 = .ok (.ifCond .le 8, 3) := by decide +kernel
theorem dX6_one_111 : decode cX6_one 111 = .ok (.iload 7, 2) := by decide +kernel
theorem dX6_one_113 : decode cX6_one 113 = .ok (.goto 4, 3) := by decide +kernel
theorem dX6_one_116 : decode cX6_one 116 = .ok (.iconst 0, 1) := by decide +kernel
theorem dX6_one_117 : decode cX6_one 117 = .ok (.iadd, 1) := by decide +kernel
theorem dX6_one_118 : decode cX6_one 118 = .ok (.istore 5, 2) := by decide +kernel
theorem dX6_one_120 : decode cX6_one 120 = .ok (.iinc 6 1, 3) := by decide +kernel
theorem dX6_one_123 : decode cX6_one 123 = .ok (.goto (-38), 3) := by decide +kernel
theorem dX6_one_126 : decode cX6_one 126 = .ok (.iload_n 1, 1) := by decide +kernel
theorem dX6_one_127 : decode cX6_one 127 = .ok (.tableswitch 113 0 9 #[53, 60, 67, 69, 71, 74, 82, 92, 99, 106], 53) := by decide +kernel
theorem dX6_one_180 : decode cX6_one 180 = .ok (.aload_n 0, 1) := by decide +kernel
theorem dX6_one_181 : decode cX6_one 181 = .ok (.getfield 7, 3) := by decide +kernel
theorem dX6_one_184 : decode cX6_one 184 = .ok (.iconst 0, 1) := by decide +kernel
theorem dX6_one_185 : decode cX6_one 185 = .ok (.iaload, 1) := by decide +kernel
theorem dX6_one_186 : decode cX6_one 186 = .ok (.ireturn, 1) := by decide +kernel
theorem dX6_one_187 : decode cX6_one 187 = .ok (.aload_n 0, 1) := by decide +kernel
theorem dX6_one_188 : decode cX6_one 188 = .ok (.getfield 7, 3) := by decide +kernel
theorem dX6_one_191 : decode cX6_one 191 = .ok (.iconst 1, 1) := by decide +kernel
theorem dX6_one_192 : decode cX6_one 192 = .ok (.iaload, 1) := by decide +kernel
theorem dX6_one_193 : decode cX6_one 193 = .ok (.ireturn, 1) := by decide +kernel
theorem dX6_one_194 : decode cX6_one 194 = .ok (.iload_n 2, 1) := by decide +kernel
theorem dX6_one_195 : decode cX6_one 195 = .ok (.ireturn, 1) := by decide +kernel
theorem dX6_one_196 : decode cX6_one 196 = .ok (.iload_n 3, 1) := by decide +kernel
theorem dX6_one_197 : decode cX6_one 197 = .ok (.ireturn, 1) := by decide +kernel
theorem dX6_one_198 : decode cX6_one 198 = .ok (.iload 4, 2) := by decide +kernel
theorem dX6_one_200 : decode cX6_one 200 = .ok (.ireturn, 1) := by decide +kernel
theorem dX6_one_201 : decode cX6_one 201 = .ok (.aload_n 0, 1) := by decide +kernel
theorem dX6_one_202 : decode cX6_one 202 = .ok (.getfield 7, 3) := by decide +kernel
theorem dX6_one_205 : decode cX6_one 205 = .ok (.invokestatic 182, 3) := by decide +kernel
theorem dX6_one_208 : decode cX6_one 208 = .ok (.ireturn, 1) := by decide +kernel
theorem dX6_one_209 : decode cX6_one 209 = .ok (.aload_n 0, 1) := by decide +kernel
theorem dX6_one_210 : decode cX6_one 210 = .ok (.aload_n 0, 1) := by decide +kernel
theorem dX6_one_211 : decode cX6_one 211 = .ok (.getfield 7, 3) := by decide +kernel
theorem dX6_one_214 : decode cX6_one 214 = .ok (.iconst (-1), 1) := by decide +kernel
theorem dX6_one_215 : decode cX6_one 215 = .ok (.invokevirtual 166, 3) := by decide +kernel
theorem dX6_one_218 : decode cX6_one 218 = .ok (.ireturn, 1) := by decide +kernel
theorem dX6_one_219 : decode cX6_one 219 = .ok (.aload_n 0, 1) := by decide +kernel
theorem dX6_one_220 : decode cX6_one 220 = .ok (.getfield 7, 3) := by decide +kernel
theorem dX6_one_223 : decode cX6_one 223 = .ok (.iconst 2, 1) := by decide +kernel
theorem dX6_one_224 : decode cX6_one 224 = .ok (.iaload, 1) := by decide +kernel
theorem dX6_one_225 : decode cX6_one 225 = .ok (.ireturn, 1) := by decide +kernel
theorem dX6_one_226 : decode cX6_one 226 = .ok (.aload_n 0, 1) := by decide +kernel
theorem dX6_one_227 : decode cX6_one 227 = .ok (.getfield 7, 3) := by decide +kernel
theorem dX6_one_230 : decode cX6_one 230 = .ok (.iconst 3, 1) := by decide +kernel
theorem dX6_one_231 : decode cX6_one 231 = .ok (.iaload, 1) := by decide +kernel
theorem dX6_one_232 : decode cX6_one 232 = .ok (.ireturn, 1) := by decide +kernel
theorem dX6_one_233 : decode cX6_one 233 = .ok (.aload_n 0, 1) := by decide +kernel
theorem dX6_one_234 : decode cX6_one 234 = .ok (.getfield 7, 3) := by decide +kernel
theorem dX6_one_237 : decode cX6_one 237 = .ok (.iconst 4, 1) := by decide +kernel
theorem dX6_one_238 : decode cX6_one 238 = .ok (.iaload, 1) := by decide +kernel
theorem dX6_one_239 : decode cX6_one 239 = .ok (.ireturn, 1) := by decide +kernel
theorem dX6_one_240 : decode cX6_one 240 = .ok (.iload 5, 2) := by decide +kernel
theorem dX6_one_242 : decode cX6_one 242 = .ok (.ireturn, 1) := by decide +kernel
theorem dX6_value_0 : decode cX6_value 0 = .ok (.aload_n 0, 1) := by decide +kernel
theorem dX6_value_1 : decode cX6_value 1 = .ok (.iload_n 1, 1) := by decide +kernel
theorem dX6_value_2 : decode cX6_value 2 = .ok (.iconst 0, 1) := by decide +kernel
theorem dX6_value_3 : decode cX6_value 3 = .ok (.bipush 10, 2) := by decide +kernel
theorem dX6_value_5 : decode cX6_value 5 = .ok (.invokestatic 68, 3) := by decide +kernel
theorem dX6_value_8 : decode cX6_value 8 = .ok (.ifCond .ne 7, 3) := by decide +kernel
theorem dX6_value_11 : decode cX6_value 11 = .ok (.iconst 1, 1) := by decide +kernel
theorem dX6_value_12 : decode cX6_value 12 = .ok (.goto 4, 3) := by decide +kernel
theorem dX6_value_15 : decode cX6_value 15 = .ok (.iconst 0, 1) := by decide +kernel
theorem dX6_value_16 : decode cX6_value 16 = .ok (.iconst 0, 1) := by decide +kernel
theorem dX6_value_17 : decode cX6_value 17 = .ok (.iconst 0, 1) := by decide +kernel
theorem dX6_value_18 : decode cX6_value 18 = .ok (.invokevirtual 146, 3) := by decide +kernel
theorem dX6_value_21 : decode cX6_value 21 = .ok (.ifCond .eq 11, 3) := by decide +kernel
theorem dX6_value_24 : decode cX6_value 24 = .ok (.aload_n 0, 1) := by decide +kernel
theorem dX6_value_25 : decode cX6_value 25 = .ok (.iload_n 1, 1) := by decide +kernel
theorem dX6_value_26 : decode cX6_value 26 = .ok (.invokevirtual 185, 3) := by decide +kernel
theorem dX6_value_29 : decode cX6_value 29 = .ok (.goto 4, 3) := by decide +kernel
theorem dX6_value_32 : decode cX6_value 32 = .ok (.iconst 0, 1) := by decide +kernel
theorem dX6_value_33 : decode cX6_value 33 = .ok (.ireturn, 1) := by decide +kernel
theorem dX6_saving_0 : decode cX6_saving 0 = .ok (.aload_n 0, 1) := by decide +kernel
theorem dX6_saving_1 : decode cX6_saving 1 = .ok (.aload_n 0, 1) := by decide +kernel
theorem dX6_saving_2 : decode cX6_saving 2 = .ok (.iload_n 1, 1) := by decide +kernel
theorem dX6_saving_3 : decode cX6_saving 3 = .ok (.invokevirtual 169, 3) := by decide +kernel
theorem dX6_saving_6 : decode cX6_saving 6 = .ok (.ifCond .ne 7, 3) := by decide +kernel
theorem dX6_saving_9 : decode cX6_saving 9 = .ok (.iconst 1, 1) := by decide +kernel
theorem dX6_saving_10 : decode cX6_saving 10 = .ok (.goto 4, 3) := by decide +kernel
theorem dX6_saving_13 : decode cX6_saving 13 = .ok (.iconst 0, 1) := by decide +kernel
theorem dX6_saving_14 : decode cX6_saving 14 = .ok (.iconst 0, 1) := by decide +kernel
theorem dX6_saving_15 : decode cX6_saving 15 = .ok (.iconst 0, 1) := by decide +kernel
theorem dX6_saving_16 : decode cX6_saving 16 = .ok (.invokevirtual 146, 3) := by decide +kernel
theorem dX6_saving_19 : decode cX6_saving 19 = .ok (.ifCond .eq 14, 3) := by decide +kernel
theorem dX6_saving_22 : decode cX6_saving 22 = .ok (.aload_n 0, 1) := by decide +kernel
theorem dX6_saving_23 : decode cX6_saving 23 = .ok (.aload_n 0, 1) := by decide +kernel
theorem dX6_saving_24 : decode cX6_saving 24 = .ok (.invokevirtual 127, 3) := by decide +kernel
theorem dX6_saving_27 : decode cX6_saving 27 = .ok (.invokevirtual 114, 3) := by decide +kernel
theorem dX6_saving_30 : decode cX6_saving 30 = .ok (.goto 4, 3) := by decide +kernel
theorem dX6_saving_33 : decode cX6_saving 33 = .ok (.iconst 0, 1) := by decide +kernel
theorem dX6_saving_34 : decode cX6_saving 34 = .ok (.ireturn, 1) := by decide +kernel
theorem dX6_bestRing_0 : decode cX6_bestRing 0 = .ok (.aload_n 0, 1) := by decide +kernel
theorem dX6_bestRing_1 : decode cX6_bestRing 1 = .ok (.iconst 0, 1) := by decide +kernel
theorem dX6_bestRing_2 : decode cX6_bestRing 2 = .ok (.iconst 0, 1) := by decide +kernel
theorem dX6_bestRing_3 : decode cX6_bestRing 3 = .ok (.iconst 0, 1) := by decide +kernel
theorem dX6_bestRing_4 : decode cX6_bestRing 4 = .ok (.invokevirtual 146, 3) := by decide +kernel
theorem dX6_bestRing_7 : decode cX6_bestRing 7 = .ok (.pop, 1) := by decide +kernel
theorem dX6_bestRing_8 : decode cX6_bestRing 8 = .ok (.aload_n 0, 1) := by decide +kernel
theorem dX6_bestRing_9 : decode cX6_bestRing 9 = .ok (.aload_n 0, 1) := by decide +kernel
theorem dX6_bestRing_10 : decode cX6_bestRing 10 = .ok (.getfield 7, 3) := by decide +kernel
theorem dX6_bestRing_13 : decode cX6_bestRing 13 = .ok (.invokevirtual 138, 3) := by decide +kernel
theorem dX6_bestRing_16 : decode cX6_bestRing 16 = .ok (.pop, 1) := by decide +kernel
theorem dX6_bestRing_17 : decode cX6_bestRing 17 = .ok (.aload_n 0, 1) := by decide +kernel
theorem dX6_bestRing_18 : decode cX6_bestRing 18 = .ok (.getfield 121, 3) := by decide +kernel
theorem dX6_bestRing_21 : decode cX6_bestRing 21 = .ok (.ireturn, 1) := by decide +kernel
theorem dX6_costByRings_0 : decode cX6_costByRings 0 = .ok (.aload_n 0, 1) := by decide +kernel
theorem dX6_costByRings_1 : decode cX6_costByRings 1 = .ok (.iconst 0, 1) := by decide +kernel
theorem dX6_costByRings_2 : decode cX6_costByRings 2 = .ok (.iconst 0, 1) := by decide +kernel
theorem dX6_costByRings_3 : decode cX6_costByRings 3 = .ok (.iconst 0, 1) := by decide +kernel
theorem dX6_costByRings_4 : decode cX6_costByRings 4 = .ok (.invokevirtual 146, 3) := by decide +kernel
theorem dX6_costByRings_7 : decode cX6_costByRings 7 = .ok (.pop, 1) := by decide +kernel
theorem dX6_costByRings_8 : decode cX6_costByRings 8 = .ok (.aload_n 0, 1) := by decide +kernel
theorem dX6_costByRings_9 : decode cX6_costByRings 9 = .ok (.getfield 7, 3) := by decide +kernel
theorem dX6_costByRings_12 : decode cX6_costByRings 12 = .ok (.iconst 0, 1) := by decide +kernel
theorem dX6_costByRings_13 : decode cX6_costByRings 13 = .ok (.aload_n 0, 1) := by decide +kernel
theorem dX6_costByRings_14 : decode cX6_costByRings 14 = .ok (.getfield 13, 3) := by decide +kernel
theorem dX6_costByRings_17 : decode cX6_costByRings 17 = .ok (.iconst 0, 1) := by decide +kernel
theorem dX6_costByRings_18 : decode cX6_costByRings 18 = .ok (.invokestatic 75, 3) := by decide +kernel
theorem dX6_costByRings_21 : decode cX6_costByRings 21 = .ok (.aload_n 0, 1) := by decide +kernel
theorem dX6_costByRings_22 : decode cX6_costByRings 22 = .ok (.aload_n 0, 1) := by decide +kernel
theorem dX6_costByRings_23 : decode cX6_costByRings 23 = .ok (.getfield 13, 3) := by decide +kernel
theorem dX6_costByRings_26 : decode cX6_costByRings 26 = .ok (.invokevirtual 172, 3) := by decide +kernel
theorem dX6_costByRings_29 : decode cX6_costByRings 29 = .ok (.pop, 1) := by decide +kernel
theorem dX6_costByRings_30 : decode cX6_costByRings 30 = .ok (.aload_n 0, 1) := by decide +kernel
theorem dX6_costByRings_31 : decode cX6_costByRings 31 = .ok (.getfield 13, 3) := by decide +kernel
theorem dX6_costByRings_34 : decode cX6_costByRings 34 = .ok (.invokestatic 182, 3) := by decide +kernel
theorem dX6_costByRings_37 : decode cX6_costByRings 37 = .ok (.ireturn, 1) := by decide +kernel
theorem dX6_ways_0 : decode cX6_ways 0 = .ok (.iconst 0, 1) := by decide +kernel
theorem dX6_ways_1 : decode cX6_ways 1 = .ok (.istore_n 1, 1) := by decide +kernel
theorem dX6_ways_2 : decode cX6_ways 2 = .ok (.iload_n 1, 1) := by decide +kernel
theorem dX6_ways_3 : decode cX6_ways 3 = .ok (.bipush 7, 2) := by decide +kernel
theorem dX6_ways_5 : decode cX6_ways 5 = .ok (.if_icmp .ge 36, 3) := by decide +kernel
theorem dX6_ways_8 : decode cX6_ways 8 = .ok (.aload_n 0, 1) := by decide +kernel
theorem dX6_ways_9 : decode cX6_ways 9 = .ok (.getfield 43, 3) := by decide +kernel
theorem dX6_ways_12 : decode cX6_ways 12 = .ok (.iload_n 1, 1) := by decide +kernel
theorem dX6_ways_13 : decode cX6_ways 13 = .ok (.aload_n 0, 1) := by decide +kernel
theorem dX6_ways_14 : decode cX6_ways 14 = .ok (.getfield 40, 3) := by decide +kernel
theorem dX6_ways_17 : decode cX6_ways 17 = .ok (.iload_n 1, 1) := by decide +kernel
theorem dX6_ways_18 : decode cX6_ways 18 = .ok (.iaload, 1) := by decide +kernel
theorem dX6_ways_19 : decode cX6_ways 19 = .ok (.ifCond .ge 7, 3) := by decide +kernel
theorem dX6_ways_22 : decode cX6_ways 22 = .ok (.iconst 0, 1) := by decide +kernel
theorem dX6_ways_23 : decode cX6_ways 23 = .ok (.goto 4, 3) := by decide +kernel
theorem dX6_ways_26 : decode cX6_ways 26 = .ok (.iconst (-1), 1) := by decide +kernel
theorem dX6_ways_27 : decode cX6_ways 27 = .ok (.iastore, 1) := by decide +kernel
theorem dX6_ways_28 : decode cX6_ways 28 = .ok (.aload_n 0, 1) := by decide +kernel
theorem dX6_ways_29 : decode cX6_ways 29 = .ok (.getfield 46, 3) := by decide +kernel
theorem dX6_ways_32 : decode cX6_ways 32 = .ok (.iload_n 1, 1) := by decide +kernel
theorem dX6_ways_33 : decode cX6_ways 33 = .ok (.iconst (-1), 1) := by decide +kernel
theorem dX6_ways_34 : decode cX6_ways 34 = .ok (.iastore, 1) := by decide +kernel
theorem dX6_ways_35 : decode cX6_ways 35 = .ok (.iinc 1 1, 3) := by decide +kernel
theorem dX6_ways_38 : decode cX6_ways 38 = .ok (.goto (-36), 3) := by decide +kernel
theorem dX6_ways_41 : decode cX6_ways 41 = .ok (.iconst 0, 1) := by decide +kernel
theorem dX6_ways_42 : decode cX6_ways 42 = .ok (.istore_n 1, 1) := by decide +kernel
theorem dX6_ways_43 : decode cX6_ways 43 = .ok (.iload_n 1, 1) := by decide +kernel
theorem dX6_ways_44 : decode cX6_ways 44 = .ok (.bipush 7, 2) := by decide +kernel
theorem dX6_ways_46 : decode cX6_ways 46 = .ok (.if_icmp .ge 159, 3) := by decide +kernel
theorem dX6_ways_49 : decode cX6_ways 49 = .ok (.iconst 0, 1) := by decide +kernel
theorem dX6_ways_50 : decode cX6_ways 50 = .ok (.istore_n 2, 1) := by decide +kernel
theorem dX6_ways_51 : decode cX6_ways 51 = .ok (.iload_n 2, 1) := by decide +kernel
theorem dX6_ways_52 : decode cX6_ways 52 = .ok (.aload_n 0, 1) := by decide +kernel
theorem dX6_ways_53 : decode cX6_ways 53 = .ok (.getfield 7, 3) := by decide +kernel
theorem dX6_ways_56 : decode cX6_ways 56 = .ok (.iconst 1, 1) := by decide +kernel
theorem dX6_ways_57 : decode cX6_ways 57 = .ok (.iaload, 1) := by decide +kernel
theorem dX6_ways_58 : decode cX6_ways 58 = .ok (.if_icmp .ge 141, 3) := by decide +kernel
theorem dX6_ways_61 : decode cX6_ways 61 = .ok (.aload_n 0, 1) := by decide +kernel
theorem dX6_ways_62 : decode cX6_ways 62 = .ok (.getfield 7, 3) := by decide +kernel
theorem dX6_ways_65 : decode cX6_ways 65 = .ok (.iload_n 2, 1) := by decide +kernel
theorem dX6_ways_66 : decode cX6_ways 66 = .ok (.iconst 4, 1) := by decide +kernel
theorem dX6_ways_67 : decode cX6_ways 67 = .ok (.invokestatic 79, 3) := by decide +kernel
theorem dX6_ways_70 : decode cX6_ways 70 = .ok (.iaload, 1) := by decide +kernel
theorem dX6_ways_71 : decode cX6_ways 71 = .ok (.ifCond .ne 7, 3) := by decide +kernel
theorem dX6_ways_74 : decode cX6_ways 74 = .ok (.iconst 1, 1) := by decide +kernel
theorem dX6_ways_75 : decode cX6_ways 75 = .ok (.goto 4, 3) := by decide +kernel
theorem dX6_ways_78 : decode cX6_ways 78 = .ok (.iconst 0, 1) := by decide +kernel
theorem dX6_ways_79 : decode cX6_ways 79 = .ok (.istore_n 3, 1) := by decide +kernel
theorem dX6_ways_80 : decode cX6_ways 80 = .ok (.iload_n 3, 1) := by decide +kernel
theorem dX6_ways_81 : decode cX6_ways 81 = .ok (.ifCond .eq 59, 3) := by decide +kernel
theorem dX6_ways_84 : decode cX6_ways 84 = .ok (.aload_n 0, 1) := by decide +kernel
theorem dX6_ways_85 : decode cX6_ways 85 = .ok (.getfield 37, 3) := by decide +kernel
theorem dX6_ways_88 : decode cX6_ways 88 = .ok (.iload_n 2, 1) := by decide +kernel
theorem dX6_ways_89 : decode cX6_ways 89 = .ok (.iaload, 1) := by decide +kernel
theorem dX6_ways_90 : decode cX6_ways 90 = .ok (.aload_n 0, 1) := by decide +kernel
theorem dX6_ways_91 : decode cX6_ways 91 = .ok (.getfield 7, 3) := by decide +kernel
theorem dX6_ways_94 : decode cX6_ways 94 = .ok (.iload_n 2, 1) := by decide +kernel
theorem dX6_ways_95 : decode cX6_ways 95 = .ok (.iconst 2, 1) := by decide +kernel
theorem dX6_ways_96 : decode cX6_ways 96 = .ok (.invokestatic 79, 3) := by decide +kernel
theorem dX6_ways_99 : decode cX6_ways 99 = .ok (.iaload, 1) := by decide +kernel
theorem dX6_ways_100 : decode cX6_ways 100 = .ok (.if_icmp .ge 40, 3) := by decide +kernel
theorem dX6_ways_103 : decode cX6_ways 103 = .ok (.aload_n 0, 1) := by decide +kernel
theorem dX6_ways_104 : decode cX6_ways 104 = .ok (.aload_n 0, 1) := by decide +kernel
theorem dX6_ways_105 : decode cX6_ways 105 = .ok (.getfield 7, 3) := by decide +kernel
theorem dX6_ways_108 : decode cX6_ways 108 = .ok (.iload_n 2, 1) := by decide +kernel
theorem dX6_ways_109 : decode cX6_ways 109 = .ok (.iconst 0, 1) := by decide +kernel
theorem dX6_ways_110 : decode cX6_ways 110 = .ok (.invokestatic 79, 3) := by decide +kernel
theorem dX6_ways_113 : decode cX6_ways 113 = .ok (.iaload, 1) := by decide +kernel
theorem dX6_ways_114 : decode cX6_ways 114 = .ok (.aload_n 0, 1) := by decide +kernel
theorem dX6_ways_115 : decode cX6_ways 115 = .ok (.getfield 7, 3) := by decide +kernel
theorem dX6_ways_118 : decode cX6_ways 118 = .ok (.iload_n 2, 1) := by decide +kernel
theorem dX6_ways_119 : decode cX6_ways 119 = .ok (.iconst 1, 1) := by decide +kernel
theorem dX6_ways_120 : decode cX6_ways 120 = .ok (.invokestatic 79, 3) := by decide +kernel
theorem dX6_ways_123 : decode cX6_ways 123 = .ok (.iaload, 1) := by decide +kernel
theorem dX6_ways_124 : decode cX6_ways 124 = .ok (.aload_n 0, 1) := by decide +kernel
theorem dX6_ways_125 : decode cX6_ways 125 = .ok (.getfield 7, 3) := by decide +kernel
theorem dX6_ways_128 : decode cX6_ways 128 = .ok (.iload_n 2, 1) := by decide +kernel
theorem dX6_ways_129 : decode cX6_ways 129 = .ok (.iconst 3, 1) := by decide +kernel
theorem dX6_ways_130 : decode cX6_ways 130 = .ok (.invokestatic 79, 3) := by decide +kernel
theorem dX6_ways_133 : decode cX6_ways 133 = .ok (.iaload, 1) := by decide +kernel
theorem dX6_ways_134 : decode cX6_ways 134 = .ok (.iconst 2, 1) := by decide +kernel
theorem dX6_ways_135 : decode cX6_ways 135 = .ok (.iload_n 2, 1) := by decide +kernel
theorem dX6_ways_136 : decode cX6_ways 136 = .ok (.imul, 1) := by decide +kernel
theorem dX6_ways_137 : decode cX6_ways 137 = .ok (.invokevirtual 188, 3) := by decide +kernel
theorem dX6_ways_140 : decode cX6_ways 140 = .ok (.iload_n 3, 1) := by decide +kernel
theorem dX6_ways_141 : decode cX6_ways 141 = .ok (.ifCond .eq 52, 3) := by decide +kernel
theorem dX6_ways_144 : decode cX6_ways 144 = .ok (.aload_n 0, 1) := by decide +kernel
theorem dX6_ways_145 : decode cX6_ways 145 = .ok (.getfield 37, 3) := by decide +kernel
theorem dX6_ways_148 : decode cX6_ways 148 = .ok (.iload_n 2, 1) := by decide +kernel
theorem dX6_ways_149 : decode cX6_ways 149 = .ok (.iaload, 1) := by decide +kernel
theorem dX6_ways_150 : decode cX6_ways 150 = .ok (.ifCond .le 43, 3) := by decide +kernel
theorem dX6_ways_153 : decode cX6_ways 153 = .ok (.aload_n 0, 1) := by decide +kernel
theorem dX6_ways_154 : decode cX6_ways 154 = .ok (.aload_n 0, 1) := by decide +kernel
theorem dX6_ways_155 : decode cX6_ways 155 = .ok (.getfield 7, 3) := by decide +kernel
theorem dX6_ways_158 : decode cX6_ways 158 = .ok (.iload_n 2, 1) := by decide +kernel
theorem dX6_ways_159 : decode cX6_ways 159 = .ok (.iconst 1, 1) := by decide +kernel
theorem dX6_ways_160 : decode cX6_ways 160 = .ok (.invokestatic 79, 3) := by decide +kernel
theorem dX6_ways_163 : decode cX6_ways 163 = .ok (.iaload, 1) := by decide +kernel
theorem dX6_ways_164 : decode cX6_ways 164 = .ok (.aload_n 0, 1) := by decide +kernel
theorem dX6_ways_165 : decode cX6_ways 165 = .ok (.getfield 7, 3) := by decide +kernel
theorem dX6_ways_168 : decode cX6_ways 168 = .ok (.iload_n 2, 1) := by decide +kernel
theorem dX6_ways_169 : decode cX6_ways 169 = .ok (.iconst 0, 1) := by decide +kernel
theorem dX6_ways_170 : decode cX6_ways 170 = .ok (.invokestatic 79, 3) := by decide +kernel
theorem dX6_ways_173 : decode cX6_ways 173 = .ok (.iaload, 1) := by decide +kernel
theorem dX6_ways_174 : decode cX6_ways 174 = .ok (.aload_n 0, 1) := by decide +kernel
theorem dX6_ways_175 : decode cX6_ways 175 = .ok (.getfield 7, 3) := by decide +kernel
theorem dX6_ways_178 : decode cX6_ways 178 = .ok (.iload_n 2, 1) := by decide +kernel
theorem dX6_ways_179 : decode cX6_ways 179 = .ok (.iconst 3, 1) := by decide +kernel
theorem dX6_ways_180 : decode cX6_ways 180 = .ok (.invokestatic 79, 3) := by decide +kernel
theorem dX6_ways_183 : decode cX6_ways 183 = .ok (.iaload, 1) := by decide +kernel
theorem dX6_ways_184 : decode cX6_ways 184 = .ok (.ineg, 1) := by decide +kernel
theorem dX6_ways_185 : decode cX6_ways 185 = .ok (.iconst 2, 1) := by decide +kernel
theorem dX6_ways_186 : decode cX6_ways 186 = .ok (.iload_n 2, 1) := by decide +kernel
theorem dX6_ways_187 : decode cX6_ways 187 = .ok (.imul, 1) := by decide +kernel
theorem dX6_ways_188 : decode cX6_ways 188 = .ok (.iconst 1, 1) := by decide +kernel
theorem dX6_ways_189 : decode cX6_ways 189 = .ok (.iadd, 1) := by decide +kernel
theorem dX6_ways_190 : decode cX6_ways 190 = .ok (.invokevirtual 188, 3) := by decide +kernel
theorem dX6_ways_193 : decode cX6_ways 193 = .ok (.iinc 2 1, 3) := by decide +kernel
theorem dX6_ways_196 : decode cX6_ways 196 = .ok (.goto (-145), 3) := by decide +kernel
theorem dX6_ways_199 : decode cX6_ways 199 = .ok (.iinc 1 1, 3) := by decide +kernel
theorem dX6_ways_202 : decode cX6_ways 202 = .ok (.goto (-159), 3) := by decide +kernel
theorem dX6_ways_205 : decode cX6_ways 205 = .ok (.return_, 1) := by decide +kernel
theorem dX6_nears_0 : decode cX6_nears 0 = .ok (.aload_n 0, 1) := by decide +kernel
theorem dX6_nears_1 : decode cX6_nears 1 = .ok (.getfield 43, 3) := by decide +kernel
theorem dX6_nears_4 : decode cX6_nears 4 = .ok (.iload_n 1, 1) := by decide +kernel
theorem dX6_nears_5 : decode cX6_nears 5 = .ok (.iaload, 1) := by decide +kernel
theorem dX6_nears_6 : decode cX6_nears 6 = .ok (.iconst (-1), 1) := by decide +kernel
theorem dX6_nears_7 : decode cX6_nears 7 = .ok (.if_icmp .eq 52, 3) := by decide +kernel
theorem dX6_nears_10 : decode cX6_nears 10 = .ok (.aload_n 0, 1) := by decide +kernel
theorem dX6_nears_11 : decode cX6_nears 11 = .ok (.getfield 43, 3) := by decide +kernel
theorem dX6_nears_14 : decode cX6_nears 14 = .ok (.iload_n 2, 1) := by decide +kernel
theorem dX6_nears_15 : decode cX6_nears 15 = .ok (.iaload, 1) := by decide +kernel
theorem dX6_nears_16 : decode cX6_nears 16 = .ok (.iconst (-1), 1) := by decide +kernel
theorem dX6_nears_17 : decode cX6_nears 17 = .ok (.if_icmp .eq 20, 3) := by decide +kernel
theorem dX6_nears_20 : decode cX6_nears 20 = .ok (.aload_n 0, 1) := by decide +kernel
theorem dX6_nears_21 : decode cX6_nears 21 = .ok (.getfield 43, 3) := by decide +kernel
theorem dX6_nears_24 : decode cX6_nears 24 = .ok (.iload_n 1, 1) := by decide +kernel
theorem dX6_nears_25 : decode cX6_nears 25 = .ok (.iaload, 1) := by decide +kernel
theorem dX6_nears_26 : decode cX6_nears 26 = .ok (.iload_n 3, 1) := by decide +kernel
theorem dX6_nears_27 : decode cX6_nears 27 = .ok (.iadd, 1) := by decide +kernel
theorem dX6_nears_28 : decode cX6_nears 28 = .ok (.aload_n 0, 1) := by decide +kernel
theorem dX6_nears_29 : decode cX6_nears 29 = .ok (.getfield 43, 3) := by decide +kernel
theorem dX6_nears_32 : decode cX6_nears 32 = .ok (.iload_n 2, 1) := by decide +kernel
theorem dX6_nears_33 : decode cX6_nears 33 = .ok (.iaload, 1) := by decide +kernel
theorem dX6_nears_34 : decode cX6_nears 34 = .ok (.if_icmp .ge 25, 3) := by decide +kernel
theorem dX6_nears_37 : decode cX6_nears 37 = .ok (.aload_n 0, 1) := by decide +kernel
theorem dX6_nears_38 : decode cX6_nears 38 = .ok (.getfield 43, 3) := by decide +kernel
theorem dX6_nears_41 : decode cX6_nears 41 = .ok (.iload_n 2, 1) := by decide +kernel
theorem dX6_nears_42 : decode cX6_nears 42 = .ok (.aload_n 0, 1) := by decide +kernel
theorem dX6_nears_43 : decode cX6_nears 43 = .ok (.getfield 43, 3) := by decide +kernel
theorem dX6_nears_46 : decode cX6_nears 46 = .ok (.iload_n 1, 1) := by decide +kernel
theorem dX6_nears_47 : decode cX6_nears 47 = .ok (.iaload, 1) := by decide +kernel
theorem dX6_nears_48 : decode cX6_nears 48 = .ok (.iload_n 3, 1) := by decide +kernel
theorem dX6_nears_49 : decode cX6_nears 49 = .ok (.iadd, 1) := by decide +kernel
theorem dX6_nears_50 : decode cX6_nears 50 = .ok (.iastore, 1) := by decide +kernel
theorem dX6_nears_51 : decode cX6_nears 51 = .ok (.aload_n 0, 1) := by decide +kernel
theorem dX6_nears_52 : decode cX6_nears 52 = .ok (.getfield 46, 3) := by decide +kernel
theorem dX6_nears_55 : decode cX6_nears 55 = .ok (.iload_n 2, 1) := by decide +kernel
theorem dX6_nears_56 : decode cX6_nears 56 = .ok (.iload 4, 2) := by decide +kernel
theorem dX6_nears_58 : decode cX6_nears 58 = .ok (.iastore, 1) := by decide +kernel
theorem dX6_nears_59 : decode cX6_nears 59 = .ok (.return_, 1) := by decide +kernel
theorem dX6_nearest_0 : decode cX6_nearest 0 = .ok (.iconst (-1), 1) := by decide +kernel
theorem dX6_nearest_1 : decode cX6_nearest 1 = .ok (.istore_n 1, 1) := by decide +kernel
theorem dX6_nearest_2 : decode cX6_nearest 2 = .ok (.iconst 0, 1) := by decide +kernel
theorem dX6_nearest_3 : decode cX6_nearest 3 = .ok (.istore_n 2, 1) := by decide +kernel
theorem dX6_nearest_4 : decode cX6_nearest 4 = .ok (.iload_n 2, 1) := by decide +kernel
theorem dX6_nearest_5 : decode cX6_nearest 5 = .ok (.bipush 7, 2) := by decide +kernel
theorem dX6_nearest_7 : decode cX6_nearest 7 = .ok (.if_icmp .ge 50, 3) := by decide +kernel
theorem dX6_nearest_10 : decode cX6_nearest 10 = .ok (.aload_n 0, 1) := by decide +kernel
theorem dX6_nearest_11 : decode cX6_nearest 11 = .ok (.getfield 40, 3) := by decide +kernel
theorem dX6_nearest_14 : decode cX6_nearest 14 = .ok (.iload_n 2, 1) := by decide +kernel
theorem dX6_nearest_15 : decode cX6_nearest 15 = .ok (.iaload, 1) := by decide +kernel
theorem dX6_nearest_16 : decode cX6_nearest 16 = .ok (.ifCond .le 35, 3) := by decide +kernel
theorem dX6_nearest_19 : decode cX6_nearest 19 = .ok (.aload_n 0, 1) := by decide +kernel
theorem dX6_nearest_20 : decode cX6_nearest 20 = .ok (.getfield 43, 3) := by decide +kernel
theorem dX6_nearest_23 : decode cX6_nearest 23 = .ok (.iload_n 2, 1) := by decide +kernel
theorem dX6_nearest_24 : decode cX6_nearest 24 = .ok (.iaload, 1) := by decide +kernel
theorem dX6_nearest_25 : decode cX6_nearest 25 = .ok (.iconst (-1), 1) := by decide +kernel
theorem dX6_nearest_26 : decode cX6_nearest 26 = .ok (.if_icmp .eq 25, 3) := by decide +kernel
theorem dX6_nearest_29 : decode cX6_nearest 29 = .ok (.iload_n 1, 1) := by decide +kernel
theorem dX6_nearest_30 : decode cX6_nearest 30 = .ok (.iconst (-1), 1) := by decide +kernel
theorem dX6_nearest_31 : decode cX6_nearest 31 = .ok (.if_icmp .eq 18, 3) := by decide +kernel
theorem dX6_nearest_34 : decode cX6_nearest 34 = .ok (.aload_n 0, 1) := by decide +kernel
theorem dX6_nearest_35 : decode cX6_nearest 35 = .ok (.getfield 43, 3) := by decide +kernel
theorem dX6_nearest_38 : decode cX6_nearest 38 = .ok (.iload_n 2, 1) := by decide +kernel
theorem dX6_nearest_39 : decode cX6_nearest 39 = .ok (.iaload, 1) := by decide +kernel
theorem dX6_nearest_40 : decode cX6_nearest 40 = .ok (.aload_n 0, 1) := by decide +kernel
theorem dX6_nearest_41 : decode cX6_nearest 41 = .ok (.getfield 43, 3) := by decide +kernel
theorem dX6_nearest_44 : decode cX6_nearest 44 = .ok (.iload_n 1, 1) := by decide +kernel
theorem dX6_nearest_45 : decode cX6_nearest 45 = .ok (.iaload, 1) := by decide +kernel
theorem dX6_nearest_46 : decode cX6_nearest 46 = .ok (.if_icmp .ge 5, 3) := by decide +kernel
theorem dX6_nearest_49 : decode cX6_nearest 49 = .ok (.iload_n 2, 1) := by decide +kernel
theorem dX6_nearest_50 : decode cX6_nearest 50 = .ok (.istore_n 1, 1) := by decide +kernel
theorem dX6_nearest_51 : decode cX6_nearest 51 = .ok (.iinc 2 1, 3) := by decide +kernel
theorem dX6_nearest_54 : decode cX6_nearest 54 = .ok (.goto (-50), 3) := by decide +kernel
theorem dX6_nearest_57 : decode cX6_nearest 57 = .ok (.iload_n 1, 1) := by decide +kernel
theorem dX6_nearest_58 : decode cX6_nearest 58 = .ok (.ireturn, 1) := by decide +kernel
theorem dX6_ahead_0 : decode cX6_ahead 0 = .ok (.aload_n 0, 1) := by decide +kernel
theorem dX6_ahead_1 : decode cX6_ahead 1 = .ok (.getfield 7, 3) := by decide +kernel
theorem dX6_ahead_4 : decode cX6_ahead 4 = .ok (.iload_n 1, 1) := by decide +kernel
theorem dX6_ahead_5 : decode cX6_ahead 5 = .ok (.iconst 2, 1) := by decide +kernel
theorem dX6_ahead_6 : decode cX6_ahead 6 = .ok (.idiv, 1) := by decide +kernel
theorem dX6_ahead_7 : decode cX6_ahead 7 = .ok (.iload_n 1, 1) := by decide +kernel
theorem dX6_ahead_8 : decode cX6_ahead 8 = .ok (.iconst 2, 1) := by decide +kernel
theorem dX6_ahead_9 : decode cX6_ahead 9 = .ok (.irem, 1) := by decide +kernel
theorem dX6_ahead_10 : decode cX6_ahead 10 = .ok (.ifCond .ne 7, 3) := by decide +kernel
theorem dX6_ahead_13 : decode cX6_ahead 13 = .ok (.iconst 0, 1) := by decide +kernel
theorem dX6_ahead_14 : decode cX6_ahead 14 = .ok (.goto 4, 3) := by decide +kernel
theorem dX6_ahead_17 : decode cX6_ahead 17 = .ok (.iconst 1, 1) := by decide +kernel
theorem dX6_ahead_18 : decode cX6_ahead 18 = .ok (.invokestatic 79, 3) := by decide +kernel
theorem dX6_ahead_21 : decode cX6_ahead 21 = .ok (.iaload, 1) := by decide +kernel
theorem dX6_ahead_22 : decode cX6_ahead 22 = .ok (.ireturn, 1) := by decide +kernel
theorem dX6_staysMore_0 : decode cX6_staysMore 0 = .ok (.aload_n 0, 1) := by decide +kernel
theorem dX6_staysMore_1 : decode cX6_staysMore 1 = .ok (.getfield 40, 3) := by decide +kernel
theorem dX6_staysMore_4 : decode cX6_staysMore 4 = .ok (.iload_n 1, 1) := by decide +kernel
theorem dX6_staysMore_5 : decode cX6_staysMore 5 = .ok (.iaload, 1) := by decide +kernel
theorem dX6_staysMore_6 : decode cX6_staysMore 6 = .ok (.istore_n 2, 1) := by decide +kernel
theorem dX6_staysMore_7 : decode cX6_staysMore 7 = .ok (.iload_n 1, 1) := by decide +kernel
theorem dX6_staysMore_8 : decode cX6_staysMore 8 = .ok (.istore_n 3, 1) := by decide +kernel
theorem dX6_staysMore_9 : decode cX6_staysMore 9 = .ok (.aload_n 0, 1) := by decide +kernel
theorem dX6_staysMore_10 : decode cX6_staysMore 10 = .ok (.getfield 46, 3) := by decide +kernel
theorem dX6_staysMore_13 : decode cX6_staysMore 13 = .ok (.iload_n 3, 1) := by decide +kernel
theorem dX6_staysMore_14 : decode cX6_staysMore 14 = .ok (.iaload, 1) := by decide +kernel
theorem dX6_staysMore_15 : decode cX6_staysMore 15 = .ok (.iconst (-1), 1) := by decide +kernel
theorem dX6_staysMore_16 : decode cX6_staysMore 16 = .ok (.if_icmp .eq 72, 3) := by decide +kernel
theorem dX6_staysMore_19 : decode cX6_staysMore 19 = .ok (.aload_n 0, 1) := by decide +kernel
theorem dX6_staysMore_20 : decode cX6_staysMore 20 = .ok (.getfield 46, 3) := by decide +kernel
theorem dX6_staysMore_23 : decode cX6_staysMore 23 = .ok (.iload_n 3, 1) := by decide +kernel
theorem dX6_staysMore_24 : decode cX6_staysMore 24 = .ok (.iaload, 1) := by decide +kernel
theorem dX6_staysMore_25 : decode cX6_staysMore 25 = .ok (.iconst 2, 1) := by decide +kernel
theorem dX6_staysMore_26 : decode cX6_staysMore 26 = .ok (.idiv, 1) := by decide +kernel
theorem dX6_staysMore_27 : decode cX6_staysMore 27 = .ok (.istore 4, 2) := by decide +kernel
theorem dX6_staysMore_29 : decode cX6_staysMore 29 = .ok (.iload_n 2, 1) := by decide +kernel
theorem dX6_staysMore_30 : decode cX6_staysMore 30 = .ok (.aload_n 0, 1) := by decide +kernel
theorem dX6_staysMore_31 : decode cX6_staysMore 31 = .ok (.getfield 46, 3) := by decide +kernel
theorem dX6_staysMore_34 : decode cX6_staysMore 34 = .ok (.iload_n 3, 1) := by decide +kernel
theorem dX6_staysMore_35 : decode cX6_staysMore 35 = .ok (.iaload, 1) := by decide +kernel
theorem dX6_staysMore_36 : decode cX6_staysMore 36 = .ok (.iconst 2, 1) := by decide +kernel
theorem dX6_staysMore_37 : decode cX6_staysMore 37 = .ok (.irem, 1) := by decide +kernel
theorem dX6_staysMore_38 : decode cX6_staysMore 38 = .ok (.ifCond .ne 25, 3) := by decide +kernel
theorem dX6_staysMore_41 : decode cX6_staysMore 41 = .ok (.aload_n 0, 1) := by decide +kernel
theorem dX6_staysMore_42 : decode cX6_staysMore 42 = .ok (.getfield 7, 3) := by decide +kernel
theorem dX6_staysMore_45 : decode cX6_staysMore 45 = .ok (.iload 4, 2) := by decide +kernel
theorem dX6_staysMore_47 : decode cX6_staysMore 47 = .ok (.iconst 2, 1) := by decide +kernel
theorem dX6_staysMore_48 : decode cX6_staysMore 48 = .ok (.invokestatic 79, 3) := by decide +kernel
theorem dX6_staysMore_51 : decode cX6_staysMore 51 = .ok (.iaload, 1) := by decide +kernel
theorem dX6_staysMore_52 : decode cX6_staysMore 52 = .ok (.aload_n 0, 1) := by decide +kernel
theorem dX6_staysMore_53 : decode cX6_staysMore 53 = .ok (.getfield 37, 3) := by decide +kernel
theorem dX6_staysMore_56 : decode cX6_staysMore 56 = .ok (.iload 4, 2) := by decide +kernel
theorem dX6_staysMore_58 : decode cX6_staysMore 58 = .ok (.iaload, 1) := by decide +kernel
theorem dX6_staysMore_59 : decode cX6_staysMore 59 = .ok (.isub, 1) := by decide +kernel
theorem dX6_staysMore_60 : decode cX6_staysMore 60 = .ok (.goto 10, 3) := by decide +kernel
theorem dX6_staysMore_63 : decode cX6_staysMore 63 = .ok (.aload_n 0, 1) := by decide +kernel
theorem dX6_staysMore_64 : decode cX6_staysMore 64 = .ok (.getfield 37, 3) := by decide +kernel
theorem dX6_staysMore_67 : decode cX6_staysMore 67 = .ok (.iload 4, 2) := by decide +kernel
theorem dX6_staysMore_69 : decode cX6_staysMore 69 = .ok (.iaload, 1) := by decide +kernel
theorem dX6_staysMore_70 : decode cX6_staysMore 70 = .ok (.invokestatic 104, 3) := by decide +kernel
theorem dX6_staysMore_73 : decode cX6_staysMore 73 = .ok (.istore_n 2, 1) := by decide +kernel
theorem dX6_staysMore_74 : decode cX6_staysMore 74 = .ok (.aload_n 0, 1) := by decide +kernel
theorem dX6_staysMore_75 : decode cX6_staysMore 75 = .ok (.aload_n 0, 1) := by decide +kernel
theorem dX6_staysMore_76 : decode cX6_staysMore 76 = .ok (.getfield 46, 3) := by decide +kernel
theorem dX6_staysMore_79 : decode cX6_staysMore 79 = .ok (.iload_n 3, 1) := by decide +kernel
theorem dX6_staysMore_80 : decode cX6_staysMore 80 = .ok (.iaload, 1) := by decide +kernel
theorem dX6_staysMore_81 : decode cX6_staysMore 81 = .ok (.invokevirtual 191, 3) := by decide +kernel
theorem dX6_staysMore_84 : decode cX6_staysMore 84 = .ok (.istore_n 3, 1) := by decide +kernel
theorem dX6_staysMore_85 : decode cX6_staysMore 85 = .ok (.goto (-76), 3) := by decide +kernel
theorem dX6_staysMore_88 : decode cX6_staysMore 88 = .ok (.iload_n 2, 1) := by decide +kernel
theorem dX6_staysMore_89 : decode cX6_staysMore 89 = .ok (.aload_n 0, 1) := by decide +kernel
theorem dX6_staysMore_90 : decode cX6_staysMore 90 = .ok (.getfield 40, 3) := by decide +kernel
theorem dX6_staysMore_93 : decode cX6_staysMore 93 = .ok (.iload_n 3, 1) := by decide +kernel
theorem dX6_staysMore_94 : decode cX6_staysMore 94 = .ok (.iaload, 1) := by decide +kernel
theorem dX6_staysMore_95 : decode cX6_staysMore 95 = .ok (.ineg, 1) := by decide +kernel
theorem dX6_staysMore_96 : decode cX6_staysMore 96 = .ok (.invokestatic 104, 3) := by decide +kernel
theorem dX6_staysMore_99 : decode cX6_staysMore 99 = .ok (.istore_n 2, 1) := by decide +kernel
theorem dX6_staysMore_100 : decode cX6_staysMore 100 = .ok (.aload_n 0, 1) := by decide +kernel
theorem dX6_staysMore_101 : decode cX6_staysMore 101 = .ok (.getfield 40, 3) := by decide +kernel
theorem dX6_staysMore_104 : decode cX6_staysMore 104 = .ok (.iload_n 3, 1) := by decide +kernel
theorem dX6_staysMore_105 : decode cX6_staysMore 105 = .ok (.dup2, 1) := by decide +kernel
theorem dX6_staysMore_106 : decode cX6_staysMore 106 = .ok (.iaload, 1) := by decide +kernel
theorem dX6_staysMore_107 : decode cX6_staysMore 107 = .ok (.iload_n 2, 1) := by decide +kernel
theorem dX6_staysMore_108 : decode cX6_staysMore 108 = .ok (.iadd, 1) := by decide +kernel
theorem dX6_staysMore_109 : decode cX6_staysMore 109 = .ok (.iastore, 1) := by decide +kernel
theorem dX6_staysMore_110 : decode cX6_staysMore 110 = .ok (.aload_n 0, 1) := by decide +kernel
theorem dX6_staysMore_111 : decode cX6_staysMore 111 = .ok (.getfield 40, 3) := by decide +kernel
theorem dX6_staysMore_114 : decode cX6_staysMore 114 = .ok (.iload_n 1, 1) := by decide +kernel
theorem dX6_staysMore_115 : decode cX6_staysMore 115 = .ok (.dup2, 1) := by decide +kernel
theorem dX6_staysMore_116 : decode cX6_staysMore 116 = .ok (.iaload, 1) := by decide +kernel
theorem dX6_staysMore_117 : decode cX6_staysMore 117 = .ok (.iload_n 2, 1) := by decide +kernel
theorem dX6_staysMore_118 : decode cX6_staysMore 118 = .ok (.isub, 1) := by decide +kernel
theorem dX6_staysMore_119 : decode cX6_staysMore 119 = .ok (.iastore, 1) := by decide +kernel
theorem dX6_staysMore_120 : decode cX6_staysMore 120 = .ok (.iload_n 1, 1) := by decide +kernel
theorem dX6_staysMore_121 : decode cX6_staysMore 121 = .ok (.istore_n 3, 1) := by decide +kernel
theorem dX6_staysMore_122 : decode cX6_staysMore 122 = .ok (.aload_n 0, 1) := by decide +kernel
theorem dX6_staysMore_123 : decode cX6_staysMore 123 = .ok (.getfield 46, 3) := by decide +kernel
theorem dX6_staysMore_126 : decode cX6_staysMore 126 = .ok (.iload_n 3, 1) := by decide +kernel
theorem dX6_staysMore_127 : decode cX6_staysMore 127 = .ok (.iaload, 1) := by decide +kernel
theorem dX6_staysMore_128 : decode cX6_staysMore 128 = .ok (.iconst (-1), 1) := by decide +kernel
theorem dX6_staysMore_129 : decode cX6_staysMore 129 = .ok (.if_icmp .eq 50, 3) := by decide +kernel
theorem dX6_staysMore_132 : decode cX6_staysMore 132 = .ok (.aload_n 0, 1) := by decide +kernel
theorem dX6_staysMore_133 : decode cX6_staysMore 133 = .ok (.getfield 37, 3) := by decide +kernel
theorem dX6_staysMore_136 : decode cX6_staysMore 136 = .ok (.aload_n 0, 1) := by decide +kernel
theorem dX6_staysMore_137 : decode cX6_staysMore 137 = .ok (.getfield 46, 3) := by decide +kernel
theorem dX6_staysMore_140 : decode cX6_staysMore 140 = .ok (.iload_n 3, 1) := by decide +kernel
theorem dX6_staysMore_141 : decode cX6_staysMore 141 = .ok (.iaload, 1) := by decide +kernel
theorem dX6_staysMore_142 : decode cX6_staysMore 142 = .ok (.iconst 2, 1) := by decide +kernel
theorem dX6_staysMore_143 : decode cX6_staysMore 143 = .ok (.idiv, 1) := by decide +kernel
theorem dX6_staysMore_144 : decode cX6_staysMore 144 = .ok (.dup2, 1) := by decide +kernel
theorem dX6_staysMore_145 : decode cX6_staysMore 145 = .ok (.iaload, 1) := by decide +kernel
theorem dX6_staysMore_146 : decode cX6_staysMore 146 = .ok (.aload_n 0, 1) := by decide +kernel
theorem dX6_staysMore_147 : decode cX6_staysMore 147 = .ok (.getfield 46, 3) := by decide +kernel
theorem dX6_staysMore_150 : decode cX6_staysMore 150 = .ok (.iload_n 3, 1) := by decide +kernel
theorem dX6_staysMore_151 : decode cX6_staysMore 151 = .ok (.iaload, 1) := by decide +kernel
theorem dX6_staysMore_152 : decode cX6_staysMore 152 = .ok (.iconst 2, 1) := by decide +kernel
theorem dX6_staysMore_153 : decode cX6_staysMore 153 = .ok (.irem, 1) := by decide +kernel
theorem dX6_staysMore_154 : decode cX6_staysMore 154 = .ok (.ifCond .ne 7, 3) := by decide +kernel
theorem dX6_staysMore_157 : decode cX6_staysMore 157 = .ok (.iload_n 2, 1) := by decide +kernel
theorem dX6_staysMore_158 : decode cX6_staysMore 158 = .ok (.goto 5, 3) := by decide +kernel
theorem dX6_staysMore_161 : decode cX6_staysMore 161 = .ok (.iload_n 2, 1) := by decide +kernel
theorem dX6_staysMore_162 : decode cX6_staysMore 162 = .ok (.ineg, 1) := by decide +kernel
theorem dX6_staysMore_163 : decode cX6_staysMore 163 = .ok (.iadd, 1) := by decide +kernel
theorem dX6_staysMore_164 : decode cX6_staysMore 164 = .ok (.iastore, 1) := by decide +kernel
theorem dX6_staysMore_165 : decode cX6_staysMore 165 = .ok (.aload_n 0, 1) := by decide +kernel
theorem dX6_staysMore_166 : decode cX6_staysMore 166 = .ok (.aload_n 0, 1) := by decide +kernel
theorem dX6_staysMore_167 : decode cX6_staysMore 167 = .ok (.getfield 46, 3) := by decide +kernel
theorem dX6_staysMore_170 : decode cX6_staysMore 170 = .ok (.iload_n 3, 1) := by decide +kernel
theorem dX6_staysMore_171 : decode cX6_staysMore 171 = .ok (.iaload, 1) := by decide +kernel
theorem dX6_staysMore_172 : decode cX6_staysMore 172 = .ok (.invokevirtual 191, 3) := by decide +kernel
theorem dX6_staysMore_175 : decode cX6_staysMore 175 = .ok (.istore_n 3, 1) := by decide +kernel
theorem dX6_staysMore_176 : decode cX6_staysMore 176 = .ok (.goto (-54), 3) := by decide +kernel
theorem dX6_staysMore_179 : decode cX6_staysMore 179 = .ok (.return_, 1) := by decide +kernel
theorem dX6_leastOf_0 : decode cX6_leastOf 0 = .ok (.iconst 0, 1) := by decide +kernel
theorem dX6_leastOf_1 : decode cX6_leastOf 1 = .ok (.istore_n 1, 1) := by decide +kernel
theorem dX6_leastOf_2 : decode cX6_leastOf 2 = .ok (.iload_n 1, 1) := by decide +kernel
theorem dX6_leastOf_3 : decode cX6_leastOf 3 = .ok (.bipush 7, 2) := by decide +kernel
theorem dX6_leastOf_5 : decode cX6_leastOf 5 = .ok (.if_icmp .ge 16, 3) := by decide +kernel
theorem dX6_leastOf_8 : decode cX6_leastOf 8 = .ok (.aload_n 0, 1) := by decide +kernel
theorem dX6_leastOf_9 : decode cX6_leastOf 9 = .ok (.getfield 40, 3) := by decide +kernel
theorem dX6_leastOf_12 : decode cX6_leastOf 12 = .ok (.iload_n 1, 1) := by decide +kernel
theorem dX6_leastOf_13 : decode cX6_leastOf 13 = .ok (.iconst 0, 1) := by decide +kernel
theorem dX6_leastOf_14 : decode cX6_leastOf 14 = .ok (.iastore, 1) := by decide +kernel
theorem dX6_leastOf_15 : decode cX6_leastOf 15 = .ok (.iinc 1 1, 3) := by decide +kernel
theorem dX6_leastOf_18 : decode cX6_leastOf 18 = .ok (.goto (-16), 3) := by decide +kernel
theorem dX6_leastOf_21 : decode cX6_leastOf 21 = .ok (.iconst 0, 1) := by decide +kernel
theorem dX6_leastOf_22 : decode cX6_leastOf 22 = .ok (.istore_n 1, 1) := by decide +kernel
theorem dX6_leastOf_23 : decode cX6_leastOf 23 = .ok (.iconst 0, 1) := by decide +kernel
theorem dX6_leastOf_24 : decode cX6_leastOf 24 = .ok (.istore_n 2, 1) := by decide +kernel
theorem dX6_leastOf_25 : decode cX6_leastOf 25 = .ok (.iload_n 2, 1) := by decide +kernel
theorem dX6_leastOf_26 : decode cX6_leastOf 26 = .ok (.aload_n 0, 1) := by decide +kernel
theorem dX6_leastOf_27 : decode cX6_leastOf 27 = .ok (.getfield 7, 3) := by decide +kernel
theorem dX6_leastOf_30 : decode cX6_leastOf 30 = .ok (.iconst 1, 1) := by decide +kernel
theorem dX6_leastOf_31 : decode cX6_leastOf 31 = .ok (.iaload, 1) := by decide +kernel
theorem dX6_leastOf_32 : decode cX6_leastOf 32 = .ok (.if_icmp .ge 139, 3) := by decide +kernel
theorem dX6_leastOf_35 : decode cX6_leastOf 35 = .ok (.aload_n 0, 1) := by decide +kernel
theorem dX6_leastOf_36 : decode cX6_leastOf 36 = .ok (.getfield 37, 3) := by decide +kernel
theorem dX6_leastOf_39 : decode cX6_leastOf 39 = .ok (.iload_n 2, 1) := by decide +kernel
theorem dX6_leastOf_40 : decode cX6_leastOf 40 = .ok (.iconst 0, 1) := by decide +kernel
theorem dX6_leastOf_41 : decode cX6_leastOf 41 = .ok (.iastore, 1) := by decide +kernel
theorem dX6_leastOf_42 : decode cX6_leastOf 42 = .ok (.aload_n 0, 1) := by decide +kernel
theorem dX6_leastOf_43 : decode cX6_leastOf 43 = .ok (.getfield 7, 3) := by decide +kernel
theorem dX6_leastOf_46 : decode cX6_leastOf 46 = .ok (.iload_n 2, 1) := by decide +kernel
theorem dX6_leastOf_47 : decode cX6_leastOf 47 = .ok (.iconst 4, 1) := by decide +kernel
theorem dX6_leastOf_48 : decode cX6_leastOf 48 = .ok (.invokestatic 79, 3) := by decide +kernel
theorem dX6_leastOf_51 : decode cX6_leastOf 51 = .ok (.iaload, 1) := by decide +kernel
theorem dX6_leastOf_52 : decode cX6_leastOf 52 = .ok (.ifCond .ne 7, 3) := by decide +kernel
theorem dX6_leastOf_55 : decode cX6_leastOf 55 = .ok (.iconst 1, 1) := by decide +kernel
theorem dX6_leastOf_56 : decode cX6_leastOf 56 = .ok (.goto 4, 3) := by decide +kernel
theorem dX6_leastOf_59 : decode cX6_leastOf 59 = .ok (.iconst 0, 1) := by decide +kernel
theorem dX6_leastOf_60 : decode cX6_leastOf 60 = .ok (.istore_n 3, 1) := by decide +kernel
theorem dX6_leastOf_61 : decode cX6_leastOf 61 = .ok (.iload_n 1, 1) := by decide +kernel
theorem dX6_leastOf_62 : decode cX6_leastOf 62 = .ok (.iload_n 3, 1) := by decide +kernel
theorem dX6_leastOf_63 : decode cX6_leastOf 63 = .ok (.ifCond .eq 7, 3) := by decide +kernel
theorem dX6_leastOf_66 : decode cX6_leastOf 66 = .ok (.iconst 0, 1) := by decide +kernel
theorem dX6_leastOf_67 : decode cX6_leastOf 67 = .ok (.goto 24, 3) := by decide +kernel
theorem dX6_leastOf_70 : decode cX6_leastOf 70 = .ok (.aload_n 0, 1) := by decide +kernel
theorem dX6_leastOf_71 : decode cX6_leastOf 71 = .ok (.getfield 7, 3) := by decide +kernel
theorem dX6_leastOf_74 : decode cX6_leastOf 74 = .ok (.iload_n 2, 1) := by decide +kernel
theorem dX6_leastOf_75 : decode cX6_leastOf 75 = .ok (.iconst 2, 1) := by decide +kernel
theorem dX6_leastOf_76 : decode cX6_leastOf 76 = .ok (.invokestatic 79, 3) := by decide +kernel
theorem dX6_leastOf_79 : decode cX6_leastOf 79 = .ok (.iaload, 1) := by decide +kernel
theorem dX6_leastOf_80 : decode cX6_leastOf 80 = .ok (.aload_n 0, 1) := by decide +kernel
theorem dX6_leastOf_81 : decode cX6_leastOf 81 = .ok (.getfield 7, 3) := by decide +kernel
theorem dX6_leastOf_84 : decode cX6_leastOf 84 = .ok (.iload_n 2, 1) := by decide +kernel
theorem dX6_leastOf_85 : decode cX6_leastOf 85 = .ok (.iconst 3, 1) := by decide +kernel
theorem dX6_leastOf_86 : decode cX6_leastOf 86 = .ok (.invokestatic 79, 3) := by decide +kernel
theorem dX6_leastOf_89 : decode cX6_leastOf 89 = .ok (.iaload, 1) := by decide +kernel
theorem dX6_leastOf_90 : decode cX6_leastOf 90 = .ok (.imul, 1) := by decide +kernel
theorem dX6_leastOf_91 : decode cX6_leastOf 91 = .ok (.iadd, 1) := by decide +kernel
theorem dX6_leastOf_92 : decode cX6_leastOf 92 = .ok (.istore_n 1, 1) := by decide +kernel
theorem dX6_leastOf_93 : decode cX6_leastOf 93 = .ok (.aload_n 0, 1) := by decide +kernel
theorem dX6_leastOf_94 : decode cX6_leastOf 94 = .ok (.getfield 40, 3) := by decide +kernel
theorem dX6_leastOf_97 : decode cX6_leastOf 97 = .ok (.aload_n 0, 1) := by decide +kernel
theorem dX6_leastOf_98 : decode cX6_leastOf 98 = .ok (.getfield 7, 3) := by decide +kernel
theorem dX6_leastOf_101 : decode cX6_leastOf 101 = .ok (.iload_n 2, 1) := by decide +kernel
theorem dX6_leastOf_102 : decode cX6_leastOf 102 = .ok (.iconst 1, 1) := by decide +kernel
theorem dX6_leastOf_103 : decode cX6_leastOf 103 = .ok (.invokestatic 79, 3) := by decide +kernel
theorem dX6_leastOf_106 : decode cX6_leastOf 106 = .ok (.iaload, 1) := by decide +kernel
theorem dX6_leastOf_107 : decode cX6_leastOf 107 = .ok (.dup2, 1) := by decide +kernel
theorem dX6_leastOf_108 : decode cX6_leastOf 108 = .ok (.iaload, 1) := by decide +kernel
theorem dX6_leastOf_109 : decode cX6_leastOf 109 = .ok (.iload_n 3, 1) := by decide +kernel
theorem dX6_leastOf_110 : decode cX6_leastOf 110 = .ok (.ifCond .eq 16, 3) := by decide +kernel
theorem dX6_leastOf_113 : decode cX6_leastOf 113 = .ok (.aload_n 0, 1) := by decide +kernel
theorem dX6_leastOf_114 : decode cX6_leastOf 114 = .ok (.getfield 7, 3) := by decide +kernel
theorem dX6_leastOf_117 : decode cX6_leastOf 117 = .ok (.iload_n 2, 1) := by decide +kernel
theorem dX6_leastOf_118 : decode cX6_leastOf 118 = .ok (.iconst 2, 1) := by decide +kernel
theorem dX6_leastOf_119 : decode cX6_leastOf 119 = .ok (.invokestatic 79, 3) := by decide +kernel
theorem dX6_leastOf_122 : decode cX6_leastOf 122 = .ok (.iaload, 1) := by decide +kernel
theorem dX6_leastOf_123 : decode cX6_leastOf 123 = .ok (.goto 4, 3) := by decide +kernel
theorem dX6_leastOf_126 : decode cX6_leastOf 126 = .ok (.iconst 0, 1) := by decide +kernel
theorem dX6_leastOf_127 : decode cX6_leastOf 127 = .ok (.iadd, 1) := by decide +kernel
theorem dX6_leastOf_128 : decode cX6_leastOf 128 = .ok (.iastore, 1) := by decide +kernel
theorem dX6_leastOf_129 : decode cX6_leastOf 129 = .ok (.aload_n 0, 1) := by decide +kernel
theorem dX6_leastOf_130 : decode cX6_leastOf 130 = .ok (.getfield 40, 3) := by decide +kernel
theorem dX6_leastOf_133 : decode cX6_leastOf 133 = .ok (.aload_n 0, 1) := by decide +kernel
theorem dX6_leastOf_134 : decode cX6_leastOf 134 = .ok (.getfield 7, 3) := by decide +kernel
theorem dX6_leastOf_137 : decode cX6_leastOf 137 = .ok (.iload_n 2, 1) := by decide +kernel
theorem dX6_leastOf_138 : decode cX6_leastOf 138 = .ok (.iconst 0, 1) := by decide +kernel
theorem dX6_leastOf_139 : decode cX6_leastOf 139 = .ok (.invokestatic 79, 3) := by decide +kernel
theorem dX6_leastOf_142 : decode cX6_leastOf 142 = .ok (.iaload, 1) := by decide +kernel
theorem dX6_leastOf_143 : decode cX6_leastOf 143 = .ok (.dup2, 1) := by decide +kernel
theorem dX6_leastOf_144 : decode cX6_leastOf 144 = .ok (.iaload, 1) := by decide +kernel
theorem dX6_leastOf_145 : decode cX6_leastOf 145 = .ok (.iload_n 3, 1) := by decide +kernel
theorem dX6_leastOf_146 : decode cX6_leastOf 146 = .ok (.ifCond .eq 16, 3) := by decide +kernel
theorem dX6_leastOf_149 : decode cX6_leastOf 149 = .ok (.aload_n 0, 1) := by decide +kernel
theorem dX6_leastOf_150 : decode cX6_leastOf 150 = .ok (.getfield 7, 3) := by decide +kernel
theorem dX6_leastOf_153 : decode cX6_leastOf 153 = .ok (.iload_n 2, 1) := by decide +kernel
theorem dX6_leastOf_154 : decode cX6_leastOf 154 = .ok (.iconst 2, 1) := by decide +kernel
theorem dX6_leastOf_155 : decode cX6_leastOf 155 = .ok (.invokestatic 79, 3) := by decide +kernel
theorem dX6_leastOf_158 : decode cX6_leastOf 158 = .ok (.iaload, 1) := by decide +kernel
theorem dX6_leastOf_159 : decode cX6_leastOf 159 = .ok (.goto 4, 3) := by decide +kernel
theorem dX6_leastOf_162 : decode cX6_leastOf 162 = .ok (.iconst 0, 1) := by decide +kernel
theorem dX6_leastOf_163 : decode cX6_leastOf 163 = .ok (.isub, 1) := by decide +kernel
theorem dX6_leastOf_164 : decode cX6_leastOf 164 = .ok (.iastore, 1) := by decide +kernel
theorem dX6_leastOf_165 : decode cX6_leastOf 165 = .ok (.iinc 2 1, 3) := by decide +kernel
theorem dX6_leastOf_168 : decode cX6_leastOf 168 = .ok (.goto (-143), 3) := by decide +kernel
theorem dX6_leastOf_171 : decode cX6_leastOf 171 = .ok (.aload_n 0, 1) := by decide +kernel
theorem dX6_leastOf_172 : decode cX6_leastOf 172 = .ok (.invokevirtual 194, 3) := by decide +kernel
theorem dX6_leastOf_175 : decode cX6_leastOf 175 = .ok (.aload_n 0, 1) := by decide +kernel
theorem dX6_leastOf_176 : decode cX6_leastOf 176 = .ok (.invokevirtual 197, 3) := by decide +kernel
theorem dX6_leastOf_179 : decode cX6_leastOf 179 = .ok (.istore_n 2, 1) := by decide +kernel
theorem dX6_leastOf_180 : decode cX6_leastOf 180 = .ok (.iload_n 2, 1) := by decide +kernel
theorem dX6_leastOf_181 : decode cX6_leastOf 181 = .ok (.iconst (-1), 1) := by decide +kernel
theorem dX6_leastOf_182 : decode cX6_leastOf 182 = .ok (.if_icmp .eq 20, 3) := by decide +kernel
theorem dX6_leastOf_185 : decode cX6_leastOf 185 = .ok (.aload_n 0, 1) := by decide +kernel
theorem dX6_leastOf_186 : decode cX6_leastOf 186 = .ok (.iload_n 2, 1) := by decide +kernel
theorem dX6_leastOf_187 : decode cX6_leastOf 187 = .ok (.invokevirtual 200, 3) := by decide +kernel
theorem dX6_leastOf_190 : decode cX6_leastOf 190 = .ok (.aload_n 0, 1) := by decide +kernel
theorem dX6_leastOf_191 : decode cX6_leastOf 191 = .ok (.invokevirtual 194, 3) := by decide +kernel
theorem dX6_leastOf_194 : decode cX6_leastOf 194 = .ok (.aload_n 0, 1) := by decide +kernel
theorem dX6_leastOf_195 : decode cX6_leastOf 195 = .ok (.invokevirtual 197, 3) := by decide +kernel
theorem dX6_leastOf_198 : decode cX6_leastOf 198 = .ok (.istore_n 2, 1) := by decide +kernel
theorem dX6_leastOf_199 : decode cX6_leastOf 199 = .ok (.goto (-19), 3) := by decide +kernel
theorem dX6_leastOf_202 : decode cX6_leastOf 202 = .ok (.iconst 0, 1) := by decide +kernel
theorem dX6_leastOf_203 : decode cX6_leastOf 203 = .ok (.istore_n 2, 1) := by decide +kernel
theorem dX6_leastOf_204 : decode cX6_leastOf 204 = .ok (.iload_n 2, 1) := by decide +kernel
theorem dX6_leastOf_205 : decode cX6_leastOf 205 = .ok (.aload_n 0, 1) := by decide +kernel
theorem dX6_leastOf_206 : decode cX6_leastOf 206 = .ok (.getfield 7, 3) := by decide +kernel
theorem dX6_leastOf_209 : decode cX6_leastOf 209 = .ok (.iconst 1, 1) := by decide +kernel
theorem dX6_leastOf_210 : decode cX6_leastOf 210 = .ok (.iaload, 1) := by decide +kernel
theorem dX6_leastOf_211 : decode cX6_leastOf 211 = .ok (.if_icmp .ge 29, 3) := by decide +kernel
theorem dX6_leastOf_214 : decode cX6_leastOf 214 = .ok (.iload_n 1, 1) := by decide +kernel
theorem dX6_leastOf_215 : decode cX6_leastOf 215 = .ok (.aload_n 0, 1) := by decide +kernel
theorem dX6_leastOf_216 : decode cX6_leastOf 216 = .ok (.getfield 37, 3) := by decide +kernel
theorem dX6_leastOf_219 : decode cX6_leastOf 219 = .ok (.iload_n 2, 1) := by decide +kernel
theorem dX6_leastOf_220 : decode cX6_leastOf 220 = .ok (.iaload, 1) := by decide +kernel
theorem dX6_leastOf_221 : decode cX6_leastOf 221 = .ok (.aload_n 0, 1) := by decide +kernel
theorem dX6_leastOf_222 : decode cX6_leastOf 222 = .ok (.getfield 7, 3) := by decide +kernel
theorem dX6_leastOf_225 : decode cX6_leastOf 225 = .ok (.iload_n 2, 1) := by decide +kernel
theorem dX6_leastOf_226 : decode cX6_leastOf 226 = .ok (.iconst 3, 1) := by decide +kernel
theorem dX6_leastOf_227 : decode cX6_leastOf 227 = .ok (.invokestatic 79, 3) := by decide +kernel
theorem dX6_leastOf_230 : decode cX6_leastOf 230 = .ok (.iaload, 1) := by decide +kernel
theorem dX6_leastOf_231 : decode cX6_leastOf 231 = .ok (.imul, 1) := by decide +kernel
theorem dX6_leastOf_232 : decode cX6_leastOf 232 = .ok (.iadd, 1) := by decide +kernel
theorem dX6_leastOf_233 : decode cX6_leastOf 233 = .ok (.istore_n 1, 1) := by decide +kernel
theorem dX6_leastOf_234 : decode cX6_leastOf 234 = .ok (.iinc 2 1, 3) := by decide +kernel
theorem dX6_leastOf_237 : decode cX6_leastOf 237 = .ok (.goto (-33), 3) := by decide +kernel
theorem dX6_leastOf_240 : decode cX6_leastOf 240 = .ok (.iload_n 1, 1) := by decide +kernel
theorem dX6_leastOf_241 : decode cX6_leastOf 241 = .ok (.ireturn, 1) := by decide +kernel
theorem dX6_leastCost_0 : decode cX6_leastCost 0 = .ok (.aload_n 0, 1) := by decide +kernel
theorem dX6_leastCost_1 : decode cX6_leastCost 1 = .ok (.iconst 0, 1) := by decide +kernel
theorem dX6_leastCost_2 : decode cX6_leastCost 2 = .ok (.iconst 0, 1) := by decide +kernel
theorem dX6_leastCost_3 : decode cX6_leastCost 3 = .ok (.iconst 0, 1) := by decide +kernel
theorem dX6_leastCost_4 : decode cX6_leastCost 4 = .ok (.invokevirtual 146, 3) := by decide +kernel
theorem dX6_leastCost_7 : decode cX6_leastCost 7 = .ok (.pop, 1) := by decide +kernel
theorem dX6_leastCost_8 : decode cX6_leastCost 8 = .ok (.aload_n 0, 1) := by decide +kernel
theorem dX6_leastCost_9 : decode cX6_leastCost 9 = .ok (.invokevirtual 204, 3) := by decide +kernel
theorem dX6_leastCost_12 : decode cX6_leastCost 12 = .ok (.ireturn, 1) := by decide +kernel
theorem dX6_ringsWithout_0 : decode cX6_ringsWithout 0 = .ok (.aload_n 0, 1) := by decide +kernel
theorem dX6_ringsWithout_1 : decode cX6_ringsWithout 1 = .ok (.aload_n 0, 1) := by decide +kernel
theorem dX6_ringsWithout_2 : decode cX6_ringsWithout 2 = .ok (.iload_n 1, 1) := by decide +kernel
theorem dX6_ringsWithout_3 : decode cX6_ringsWithout 3 = .ok (.invokevirtual 160, 3) := by decide +kernel
theorem dX6_ringsWithout_6 : decode cX6_ringsWithout 6 = .ok (.ifCond .ne 7, 3) := by decide +kernel
theorem dX6_ringsWithout_9 : decode cX6_ringsWithout 9 = .ok (.iconst 1, 1) := by decide +kernel
theorem dX6_ringsWithout_10 : decode cX6_ringsWithout 10 = .ok (.goto 4, 3) := by decide +kernel
theorem dX6_ringsWithout_13 : decode cX6_ringsWithout 13 = .ok (.iconst 0, 1) := by decide +kernel
theorem dX6_ringsWithout_14 : decode cX6_ringsWithout 14 = .ok (.iconst 0, 1) := by decide +kernel
theorem dX6_ringsWithout_15 : decode cX6_ringsWithout 15 = .ok (.iconst 0, 1) := by decide +kernel
theorem dX6_ringsWithout_16 : decode cX6_ringsWithout 16 = .ok (.invokevirtual 146, 3) := by decide +kernel
theorem dX6_ringsWithout_19 : decode cX6_ringsWithout 19 = .ok (.ifCond .eq 15, 3) := by decide +kernel
theorem dX6_ringsWithout_22 : decode cX6_ringsWithout 22 = .ok (.aload_n 0, 1) := by decide +kernel
theorem dX6_ringsWithout_23 : decode cX6_ringsWithout 23 = .ok (.aload_n 0, 1) := by decide +kernel
theorem dX6_ringsWithout_24 : decode cX6_ringsWithout 24 = .ok (.getfield 7, 3) := by decide +kernel
theorem dX6_ringsWithout_27 : decode cX6_ringsWithout 27 = .ok (.iload_n 1, 1) := by decide +kernel
theorem dX6_ringsWithout_28 : decode cX6_ringsWithout 28 = .ok (.invokevirtual 166, 3) := by decide +kernel
theorem dX6_ringsWithout_31 : decode cX6_ringsWithout 31 = .ok (.goto 4, 3) := by decide +kernel
theorem dX6_ringsWithout_34 : decode cX6_ringsWithout 34 = .ok (.iconst 0, 1) := by decide +kernel
theorem dX6_ringsWithout_35 : decode cX6_ringsWithout 35 = .ok (.ireturn, 1) := by decide +kernel
theorem dX6_keyPromise_0 : decode cX6_keyPromise 0 = .ok (.aload_n 0, 1) := by decide +kernel
theorem dX6_keyPromise_1 : decode cX6_keyPromise 1 = .ok (.iconst 0, 1) := by decide +kernel
theorem dX6_keyPromise_2 : decode cX6_keyPromise 2 = .ok (.iconst 0, 1) := by decide +kernel
theorem dX6_keyPromise_3 : decode cX6_keyPromise 3 = .ok (.iconst 0, 1) := by decide +kernel
theorem dX6_keyPromise_4 : decode cX6_keyPromise 4 = .ok (.invokevirtual 146, 3) := by decide +kernel
theorem dX6_keyPromise_7 : decode cX6_keyPromise 7 = .ok (.pop, 1) := by decide +kernel
theorem dX6_keyPromise_8 : decode cX6_keyPromise 8 = .ok (.iconst (-1), 1) := by decide +kernel
theorem dX6_keyPromise_9 : decode cX6_keyPromise 9 = .ok (.istore_n 1, 1) := by decide +kernel
theorem dX6_keyPromise_10 : decode cX6_keyPromise 10 = .ok (.iconst 0, 1) := by decide +kernel
theorem dX6_keyPromise_11 : decode cX6_keyPromise 11 = .ok (.istore_n 2, 1) := by decide +kernel
theorem dX6_keyPromise_12 : decode cX6_keyPromise 12 = .ok (.iconst 0, 1) := by decide +kernel
theorem dX6_keyPromise_13 : decode cX6_keyPromise 13 = .ok (.istore_n 3, 1) := by decide +kernel
theorem dX6_keyPromise_14 : decode cX6_keyPromise 14 = .ok (.iload_n 3, 1) := by decide +kernel
theorem dX6_keyPromise_15 : decode cX6_keyPromise 15 = .ok (.aload_n 0, 1) := by decide +kernel
theorem dX6_keyPromise_16 : decode cX6_keyPromise 16 = .ok (.getfield 7, 3) := by decide +kernel
theorem dX6_keyPromise_19 : decode cX6_keyPromise 19 = .ok (.iconst 1, 1) := by decide +kernel
theorem dX6_keyPromise_20 : decode cX6_keyPromise 20 = .ok (.iaload, 1) := by decide +kernel
theorem dX6_keyPromise_21 : decode cX6_keyPromise 21 = .ok (.if_icmp .ge 69, 3) := by decide +kernel
theorem dX6_keyPromise_24 : decode cX6_keyPromise 24 = .ok (.aload_n 0, 1) := by decide +kernel
theorem dX6_keyPromise_25 : decode cX6_keyPromise 25 = .ok (.iload_n 3, 1) := by decide +kernel
theorem dX6_keyPromise_26 : decode cX6_keyPromise 26 = .ok (.invokevirtual 163, 3) := by decide +kernel
theorem dX6_keyPromise_29 : decode cX6_keyPromise 29 = .ok (.ifCond .eq 55, 3) := by decide +kernel
theorem dX6_keyPromise_32 : decode cX6_keyPromise 32 = .ok (.aload_n 0, 1) := by decide +kernel
theorem dX6_keyPromise_33 : decode cX6_keyPromise 33 = .ok (.aload_n 0, 1) := by decide +kernel
theorem dX6_keyPromise_34 : decode cX6_keyPromise 34 = .ok (.getfield 7, 3) := by decide +kernel
theorem dX6_keyPromise_37 : decode cX6_keyPromise 37 = .ok (.iload_n 3, 1) := by decide +kernel
theorem dX6_keyPromise_38 : decode cX6_keyPromise 38 = .ok (.invokevirtual 166, 3) := by decide +kernel
theorem dX6_keyPromise_41 : decode cX6_keyPromise 41 = .ok (.istore 4, 2) := by decide +kernel
theorem dX6_keyPromise_43 : decode cX6_keyPromise 43 = .ok (.iload_n 1, 1) := by decide +kernel
theorem dX6_keyPromise_44 : decode cX6_keyPromise 44 = .ok (.iconst (-1), 1) := by decide +kernel
theorem dX6_keyPromise_45 : decode cX6_keyPromise 45 = .ok (.if_icmp .eq 9, 3) := by decide +kernel
theorem dX6_keyPromise_48 : decode cX6_keyPromise 48 = .ok (.iload 4, 2) := by decide +kernel
theorem dX6_keyPromise_50 : decode cX6_keyPromise 50 = .ok (.iload_n 2, 1) := by decide +kernel
theorem dX6_keyPromise_51 : decode cX6_keyPromise 51 = .ok (.if_icmp .ge 7, 3) := by decide +kernel
theorem dX6_keyPromise_54 : decode cX6_keyPromise 54 = .ok (.iconst 1, 1) := by decide +kernel
theorem dX6_keyPromise_55 : decode cX6_keyPromise 55 = .ok (.goto 4, 3) := by decide +kernel
theorem dX6_keyPromise_58 : decode cX6_keyPromise 58 = .ok (.iconst 0, 1) := by decide +kernel
theorem dX6_keyPromise_59 : decode cX6_keyPromise 59 = .ok (.istore 5, 2) := by decide +kernel
theorem dX6_keyPromise_61 : decode cX6_keyPromise 61 = .ok (.iload 5, 2) := by decide +kernel
theorem dX6_keyPromise_63 : decode cX6_keyPromise 63 = .ok (.ifCond .eq 8, 3) := by decide +kernel
theorem dX6_keyPromise_66 : decode cX6_keyPromise 66 = .ok (.iload 4, 2) := by decide +kernel
theorem dX6_keyPromise_68 : decode cX6_keyPromise 68 = .ok (.goto 4, 3) := by decide +kernel
theorem dX6_keyPromise_71 : decode cX6_keyPromise 71 = .ok (.iload_n 2, 1) := by decide +kernel
theorem dX6_keyPromise_72 : decode cX6_keyPromise 72 = .ok (.istore_n 2, 1) := by decide +kernel
theorem dX6_keyPromise_73 : decode cX6_keyPromise 73 = .ok (.iload 5, 2) := by decide +kernel
theorem dX6_keyPromise_75 : decode cX6_keyPromise 75 = .ok (.ifCond .eq 7, 3) := by decide +kernel
theorem dX6_keyPromise_78 : decode cX6_keyPromise 78 = .ok (.iload_n 3, 1) := by decide +kernel
theorem dX6_keyPromise_79 : decode cX6_keyPromise 79 = .ok (.goto 4, 3) := by decide +kernel
theorem dX6_keyPromise_82 : decode cX6_keyPromise 82 = .ok (.iload_n 1, 1) := by decide +kernel
theorem dX6_keyPromise_83 : decode cX6_keyPromise 83 = .ok (.istore_n 1, 1) := by decide +kernel
theorem dX6_keyPromise_84 : decode cX6_keyPromise 84 = .ok (.iinc 3 1, 3) := by decide +kernel
theorem dX6_keyPromise_87 : decode cX6_keyPromise 87 = .ok (.goto (-73), 3) := by decide +kernel
theorem dX6_keyPromise_90 : decode cX6_keyPromise 90 = .ok (.iload_n 1, 1) := by decide +kernel
theorem dX6_keyPromise_91 : decode cX6_keyPromise 91 = .ok (.ireturn, 1) := by decide +kernel
theorem dX6_mutual_0 : decode cX6_mutual 0 = .ok (.aload_n 0, 1) := by decide +kernel
theorem dX6_mutual_1 : decode cX6_mutual 1 = .ok (.aload_n 0, 1) := by decide +kernel
theorem dX6_mutual_2 : decode cX6_mutual 2 = .ok (.iload_n 1, 1) := by decide +kernel
theorem dX6_mutual_3 : decode cX6_mutual 3 = .ok (.invokevirtual 153, 3) := by decide +kernel
theorem dX6_mutual_6 : decode cX6_mutual 6 = .ok (.ifCond .ne 7, 3) := by decide +kernel
theorem dX6_mutual_9 : decode cX6_mutual 9 = .ok (.iconst 1, 1) := by decide +kernel
theorem dX6_mutual_10 : decode cX6_mutual 10 = .ok (.goto 4, 3) := by decide +kernel
theorem dX6_mutual_13 : decode cX6_mutual 13 = .ok (.iconst 0, 1) := by decide +kernel
theorem dX6_mutual_14 : decode cX6_mutual 14 = .ok (.iconst 0, 1) := by decide +kernel
theorem dX6_mutual_15 : decode cX6_mutual 15 = .ok (.iconst 0, 1) := by decide +kernel
theorem dX6_mutual_16 : decode cX6_mutual 16 = .ok (.invokevirtual 146, 3) := by decide +kernel
theorem dX6_mutual_19 : decode cX6_mutual 19 = .ok (.ifCond .ne 5, 3) := by decide +kernel
theorem dX6_mutual_22 : decode cX6_mutual 22 = .ok (.iconst 0, 1) := by decide +kernel
theorem dX6_mutual_23 : decode cX6_mutual 23 = .ok (.ireturn, 1) := by decide +kernel
theorem dX6_mutual_24 : decode cX6_mutual 24 = .ok (.aload_n 0, 1) := by decide +kernel
theorem dX6_mutual_25 : decode cX6_mutual 25 = .ok (.aload_n 0, 1) := by decide +kernel
theorem dX6_mutual_26 : decode cX6_mutual 26 = .ok (.getfield 7, 3) := by decide +kernel
theorem dX6_mutual_29 : decode cX6_mutual 29 = .ok (.iconst (-1), 1) := by decide +kernel
theorem dX6_mutual_30 : decode cX6_mutual 30 = .ok (.invokevirtual 96, 3) := by decide +kernel
theorem dX6_mutual_33 : decode cX6_mutual 33 = .ok (.iconst 0, 1) := by decide +kernel
theorem dX6_mutual_34 : decode cX6_mutual 34 = .ok (.istore_n 2, 1) := by decide +kernel
theorem dX6_mutual_35 : decode cX6_mutual 35 = .ok (.iconst 0, 1) := by decide +kernel
theorem dX6_mutual_36 : decode cX6_mutual 36 = .ok (.istore_n 3, 1) := by decide +kernel
theorem dX6_mutual_37 : decode cX6_mutual 37 = .ok (.iload_n 3, 1) := by decide +kernel
theorem dX6_mutual_38 : decode cX6_mutual 38 = .ok (.aload_n 0, 1) := by decide +kernel
theorem dX6_mutual_39 : decode cX6_mutual 39 = .ok (.getfield 7, 3) := by decide +kernel
theorem dX6_mutual_42 : decode cX6_mutual 42 = .ok (.iconst 0, 1) := by decide +kernel
theorem dX6_mutual_43 : decode cX6_mutual 43 = .ok (.iaload, 1) := by decide +kernel
theorem dX6_mutual_44 : decode cX6_mutual 44 = .ok (.if_icmp .ge 46, 3) := by decide +kernel
theorem dX6_mutual_47 : decode cX6_mutual 47 = .ok (.iload_n 2, 1) := by decide +kernel
theorem dX6_mutual_48 : decode cX6_mutual 48 = .ok (.iload_n 3, 1) := by decide +kernel
theorem dX6_mutual_49 : decode cX6_mutual 49 = .ok (.iload_n 1, 1) := by decide +kernel
theorem dX6_mutual_50 : decode cX6_mutual 50 = .ok (.if_icmp .ne 7, 3) := by decide +kernel
theorem dX6_mutual_53 : decode cX6_mutual 53 = .ok (.iconst 0, 1) := by decide +kernel
theorem dX6_mutual_54 : decode cX6_mutual 54 = .ok (.goto 28, 3) := by decide +kernel
theorem dX6_mutual_57 : decode cX6_mutual 57 = .ok (.aload_n 0, 1) := by decide +kernel
theorem dX6_mutual_58 : decode cX6_mutual 58 = .ok (.getfield 22, 3) := by decide +kernel
theorem dX6_mutual_61 : decode cX6_mutual 61 = .ok (.bipush 7, 2) := by decide +kernel
theorem dX6_mutual_63 : decode cX6_mutual 63 = .ok (.iload_n 1, 1) := by decide +kernel
theorem dX6_mutual_64 : decode cX6_mutual 64 = .ok (.imul, 1) := by decide +kernel
theorem dX6_mutual_65 : decode cX6_mutual 65 = .ok (.iload_n 3, 1) := by decide +kernel
theorem dX6_mutual_66 : decode cX6_mutual 66 = .ok (.iadd, 1) := by decide +kernel
theorem dX6_mutual_67 : decode cX6_mutual 67 = .ok (.iaload, 1) := by decide +kernel
theorem dX6_mutual_68 : decode cX6_mutual 68 = .ok (.aload_n 0, 1) := by decide +kernel
theorem dX6_mutual_69 : decode cX6_mutual 69 = .ok (.getfield 22, 3) := by decide +kernel
theorem dX6_mutual_72 : decode cX6_mutual 72 = .ok (.bipush 7, 2) := by decide +kernel
theorem dX6_mutual_74 : decode cX6_mutual 74 = .ok (.iload_n 3, 1) := by decide +kernel
theorem dX6_mutual_75 : decode cX6_mutual 75 = .ok (.imul, 1) := by decide +kernel
theorem dX6_mutual_76 : decode cX6_mutual 76 = .ok (.iload_n 1, 1) := by decide +kernel
theorem dX6_mutual_77 : decode cX6_mutual 77 = .ok (.iadd, 1) := by decide +kernel
theorem dX6_mutual_78 : decode cX6_mutual 78 = .ok (.iaload, 1) := by decide +kernel
theorem dX6_mutual_79 : decode cX6_mutual 79 = .ok (.invokestatic 104, 3) := by decide +kernel
theorem dX6_mutual_82 : decode cX6_mutual 82 = .ok (.iadd, 1) := by decide +kernel
theorem dX6_mutual_83 : decode cX6_mutual 83 = .ok (.istore_n 2, 1) := by decide +kernel
theorem dX6_mutual_84 : decode cX6_mutual 84 = .ok (.iinc 3 1, 3) := by decide +kernel
theorem dX6_mutual_87 : decode cX6_mutual 87 = .ok (.goto (-50), 3) := by decide +kernel
theorem dX6_mutual_90 : decode cX6_mutual 90 = .ok (.iload_n 2, 1) := by decide +kernel
theorem dX6_mutual_91 : decode cX6_mutual 91 = .ok (.ireturn, 1) := by decide +kernel
theorem dX6_append_0 : decode cX6_append 0 = .ok (.aload_n 0, 1) := by decide +kernel
theorem dX6_append_1 : decode cX6_append 1 = .ok (.iload_n 1, 1) := by decide +kernel
theorem dX6_append_2 : decode cX6_append 2 = .ok (.iconst 0, 1) := by decide +kernel
theorem dX6_append_3 : decode cX6_append 3 = .ok (.bipush 127, 2) := by decide +kernel
theorem dX6_append_5 : decode cX6_append 5 = .ok (.invokestatic 68, 3) := by decide +kernel
theorem dX6_append_8 : decode cX6_append 8 = .ok (.ifCond .ne 7, 3) := by decide +kernel
theorem dX6_append_11 : decode cX6_append 11 = .ok (.iconst 1, 1) := by decide +kernel
theorem dX6_append_12 : decode cX6_append 12 = .ok (.goto 4, 3) := by decide +kernel
theorem dX6_append_15 : decode cX6_append 15 = .ok (.iconst 0, 1) := by decide +kernel
theorem dX6_append_16 : decode cX6_append 16 = .ok (.aload_n 0, 1) := by decide +kernel
theorem dX6_append_17 : decode cX6_append 17 = .ok (.getfield 207, 3) := by decide +kernel
theorem dX6_append_20 : decode cX6_append 20 = .ok (.bipush 100, 2) := by decide +kernel
theorem dX6_append_22 : decode cX6_append 22 = .ok (.if_icmp .ne 7, 3) := by decide +kernel
theorem dX6_append_25 : decode cX6_append 25 = .ok (.iconst 1, 1) := by decide +kernel
theorem dX6_append_26 : decode cX6_append 26 = .ok (.goto 4, 3) := by decide +kernel
theorem dX6_append_29 : decode cX6_append 29 = .ok (.iconst 0, 1) := by decide +kernel
theorem dX6_append_30 : decode cX6_append 30 = .ok (.iconst 0, 1) := by decide +kernel
theorem dX6_append_31 : decode cX6_append 31 = .ok (.invokevirtual 146, 3) := by decide +kernel
theorem dX6_append_34 : decode cX6_append 34 = .ok (.ifCond .ne 5, 3) := by decide +kernel
theorem dX6_append_37 : decode cX6_append 37 = .ok (.iconst 0, 1) := by decide +kernel
theorem dX6_append_38 : decode cX6_append 38 = .ok (.ireturn, 1) := by decide +kernel
theorem dX6_append_39 : decode cX6_append 39 = .ok (.aload_n 0, 1) := by decide +kernel
theorem dX6_append_40 : decode cX6_append 40 = .ok (.getfield 19, 3) := by decide +kernel
theorem dX6_append_43 : decode cX6_append 43 = .ok (.aload_n 0, 1) := by decide +kernel
theorem dX6_append_44 : decode cX6_append 44 = .ok (.getfield 207, 3) := by decide +kernel
theorem dX6_append_47 : decode cX6_append 47 = .ok (.iload_n 1, 1) := by decide +kernel
theorem dX6_append_48 : decode cX6_append 48 = .ok (.iastore, 1) := by decide +kernel
theorem dX6_append_49 : decode cX6_append 49 = .ok (.aload_n 0, 1) := by decide +kernel
theorem dX6_append_50 : decode cX6_append 50 = .ok (.dup, 1) := by decide +kernel
theorem dX6_append_51 : decode cX6_append 51 = .ok (.getfield 207, 3) := by decide +kernel
theorem dX6_append_54 : decode cX6_append 54 = .ok (.iconst 1, 1) := by decide +kernel
theorem dX6_append_55 : decode cX6_append 55 = .ok (.iadd, 1) := by decide +kernel
theorem dX6_append_56 : decode cX6_append 56 = .ok (.putfield 207, 3) := by decide +kernel
theorem dX6_append_59 : decode cX6_append 59 = .ok (.aload_n 0, 1) := by decide +kernel
theorem dX6_append_60 : decode cX6_append 60 = .ok (.getfield 207, 3) := by decide +kernel
theorem dX6_append_63 : decode cX6_append 63 = .ok (.ireturn, 1) := by decide +kernel
theorem dX6_clearText_0 : decode cX6_clearText 0 = .ok (.aload_n 0, 1) := by decide +kernel
theorem dX6_clearText_1 : decode cX6_clearText 1 = .ok (.iconst 0, 1) := by decide +kernel
theorem dX6_clearText_2 : decode cX6_clearText 2 = .ok (.iconst 0, 1) := by decide +kernel
theorem dX6_clearText_3 : decode cX6_clearText 3 = .ok (.iconst 0, 1) := by decide +kernel
theorem dX6_clearText_4 : decode cX6_clearText 4 = .ok (.invokevirtual 146, 3) := by decide +kernel
theorem dX6_clearText_7 : decode cX6_clearText 7 = .ok (.pop, 1) := by decide +kernel
theorem dX6_clearText_8 : decode cX6_clearText 8 = .ok (.aload_n 0, 1) := by decide +kernel
theorem dX6_clearText_9 : decode cX6_clearText 9 = .ok (.getfield 207, 3) := by decide +kernel
theorem dX6_clearText_12 : decode cX6_clearText 12 = .ok (.istore_n 1, 1) := by decide +kernel
theorem dX6_clearText_13 : decode cX6_clearText 13 = .ok (.aload_n 0, 1) := by decide +kernel
theorem dX6_clearText_14 : decode cX6_clearText 14 = .ok (.iconst 0, 1) := by decide +kernel
theorem dX6_clearText_15 : decode cX6_clearText 15 = .ok (.putfield 207, 3) := by decide +kernel
theorem dX6_clearText_18 : decode cX6_clearText 18 = .ok (.iload_n 1, 1) := by decide +kernel
theorem dX6_clearText_19 : decode cX6_clearText 19 = .ok (.ireturn, 1) := by decide +kernel
theorem dX6_look_0 : decode cX6_look 0 = .ok (.aload_n 0, 1) := by decide +kernel
theorem dX6_look_1 : decode cX6_look 1 = .ok (.getfield 210, 3) := by decide +kernel
theorem dX6_look_4 : decode cX6_look 4 = .ok (.aload_n 0, 1) := by decide +kernel
theorem dX6_look_5 : decode cX6_look 5 = .ok (.getfield 207, 3) := by decide +kernel
theorem dX6_look_8 : decode cX6_look 8 = .ok (.if_icmp .ge 15, 3) := by decide +kernel
theorem dX6_look_11 : decode cX6_look 11 = .ok (.aload_n 0, 1) := by decide +kernel
theorem dX6_look_12 : decode cX6_look 12 = .ok (.getfield 19, 3) := by decide +kernel
theorem dX6_look_15 : decode cX6_look 15 = .ok (.aload_n 0, 1) := by decide +kernel
theorem dX6_look_16 : decode cX6_look 16 = .ok (.getfield 210, 3) := by decide +kernel
theorem dX6_look_19 : decode cX6_look 19 = .ok (.iaload, 1) := by decide +kernel
theorem dX6_look_20 : decode cX6_look 20 = .ok (.goto 4, 3) := by decide +kernel
theorem dX6_look_23 : decode cX6_look 23 = .ok (.iconst (-1), 1) := by decide +kernel
theorem dX6_look_24 : decode cX6_look 24 = .ok (.ireturn, 1) := by decide +kernel
theorem dX6_fails_0 : decode cX6_fails 0 = .ok (.aload_n 0, 1) := by decide +kernel
theorem dX6_fails_1 : decode cX6_fails 1 = .ok (.aload_n 0, 1) := by decide +kernel
theorem dX6_fails_2 : decode cX6_fails 2 = .ok (.getfield 213, 3) := by decide +kernel
theorem dX6_fails_5 : decode cX6_fails 5 = .ok (.iconst (-1), 1) := by decide +kernel
theorem dX6_fails_6 : decode cX6_fails 6 = .ok (.if_icmp .ne 7, 3) := by decide +kernel
theorem dX6_fails_9 : decode cX6_fails 9 = .ok (.iload_n 1, 1) := by decide +kernel
theorem dX6_fails_10 : decode cX6_fails 10 = .ok (.goto 7, 3) := by decide +kernel
theorem dX6_fails_13 : decode cX6_fails 13 = .ok (.aload_n 0, 1) := by decide +kernel
theorem dX6_fails_14 : decode cX6_fails 14 = .ok (.getfield 213, 3) := by decide +kernel
theorem dX6_fails_17 : decode cX6_fails 17 = .ok (.putfield 213, 3) := by decide +kernel
theorem dX6_fails_20 : decode cX6_fails 20 = .ok (.return_, 1) := by decide +kernel
theorem dX6_sign_0 : decode cX6_sign 0 = .ok (.aload_n 0, 1) := by decide +kernel
theorem dX6_sign_1 : decode cX6_sign 1 = .ok (.getfield 213, 3) := by decide +kernel
theorem dX6_sign_4 : decode cX6_sign 4 = .ok (.iconst (-1), 1) := by decide +kernel
theorem dX6_sign_5 : decode cX6_sign 5 = .ok (.if_icmp .ne 24, 3) := by decide +kernel
theorem dX6_sign_8 : decode cX6_sign 8 = .ok (.aload_n 0, 1) := by decide +kernel
theorem dX6_sign_9 : decode cX6_sign 9 = .ok (.invokevirtual 216, 3) := by decide +kernel
theorem dX6_sign_12 : decode cX6_sign 12 = .ok (.iload_n 1, 1) := by decide +kernel
theorem dX6_sign_13 : decode cX6_sign 13 = .ok (.if_icmp .ne 16, 3) := by decide +kernel
theorem dX6_sign_16 : decode cX6_sign 16 = .ok (.aload_n 0, 1) := by decide +kernel
theorem dX6_sign_17 : decode cX6_sign 17 = .ok (.dup, 1) := by decide +kernel
theorem dX6_sign_18 : decode cX6_sign 18 = .ok (.getfield 210, 3) := by decide +kernel
theorem dX6_sign_21 : decode cX6_sign 21 = .ok (.iconst 1, 1) := by decide +kernel
theorem dX6_sign_22 : decode cX6_sign 22 = .ok (.iadd, 1) := by decide +kernel
theorem dX6_sign_23 : decode cX6_sign 23 = .ok (.putfield 210, 3) := by decide +kernel
theorem dX6_sign_26 : decode cX6_sign 26 = .ok (.goto 11, 3) := by decide +kernel
theorem dX6_sign_29 : decode cX6_sign 29 = .ok (.aload_n 0, 1) := by decide +kernel
theorem dX6_sign_30 : decode cX6_sign 30 = .ok (.aload_n 0, 1) := by decide +kernel
theorem dX6_sign_31 : decode cX6_sign 31 = .ok (.getfield 210, 3) := by decide +kernel
theorem dX6_sign_34 : decode cX6_sign 34 = .ok (.invokevirtual 219, 3) := by decide +kernel
theorem dX6_sign_37 : decode cX6_sign 37 = .ok (.return_, 1) := by decide +kernel
theorem dX6_digit_0 : decode cX6_digit 0 = .ok (.aload_n 0, 1) := by decide +kernel
theorem dX6_digit_1 : decode cX6_digit 1 = .ok (.iconst 0, 1) := by decide +kernel
theorem dX6_digit_2 : decode cX6_digit 2 = .ok (.putfield 222, 3) := by decide +kernel
theorem dX6_digit_5 : decode cX6_digit 5 = .ok (.aload_n 0, 1) := by decide +kernel
theorem dX6_digit_6 : decode cX6_digit 6 = .ok (.getfield 213, 3) := by decide +kernel
theorem dX6_digit_9 : decode cX6_digit 9 = .ok (.iconst (-1), 1) := by decide +kernel
theorem dX6_digit_10 : decode cX6_digit 10 = .ok (.if_icmp .ne 42, 3) := by decide +kernel
theorem dX6_digit_13 : decode cX6_digit 13 = .ok (.aload_n 0, 1) := by decide +kernel
theorem dX6_digit_14 : decode cX6_digit 14 = .ok (.invokevirtual 216, 3) := by decide +kernel
theorem dX6_digit_17 : decode cX6_digit 17 = .ok (.bipush 48, 2) := by decide +kernel
theorem dX6_digit_19 : decode cX6_digit 19 = .ok (.isub, 1) := by decide +kernel
theorem dX6_digit_20 : decode cX6_digit 20 = .ok (.iload_n 1, 1) := by decide +kernel
theorem dX6_digit_21 : decode cX6_digit 21 = .ok (.iload_n 2, 1) := by decide +kernel
theorem dX6_digit_22 : decode cX6_digit 22 = .ok (.invokestatic 68, 3) := by decide +kernel
theorem dX6_digit_25 : decode cX6_digit 25 = .ok (.ifCond .eq 27, 3) := by decide +kernel
theorem dX6_digit_28 : decode cX6_digit 28 = .ok (.aload_n 0, 1) := by decide +kernel
theorem dX6_digit_29 : decode cX6_digit 29 = .ok (.aload_n 0, 1) := by decide +kernel
theorem dX6_digit_30 : decode cX6_digit 30 = .ok (.invokevirtual 216, 3) := by decide +kernel
theorem dX6_digit_33 : decode cX6_digit 33 = .ok (.bipush 48, 2) := by decide +kernel
theorem dX6_digit_35 : decode cX6_digit 35 = .ok (.isub, 1) := by decide +kernel
theorem dX6_digit_36 : decode cX6_digit 36 = .ok (.putfield 222, 3) := by decide +kernel
theorem dX6_digit_39 : decode cX6_digit 39 = .ok (.aload_n 0, 1) := by decide +kernel
theorem dX6_digit_40 : decode cX6_digit 40 = .ok (.dup, 1) := by decide +kernel
theorem dX6_digit_41 : decode cX6_digit 41 = .ok (.getfield 210, 3) := by decide +kernel
theorem dX6_digit_44 : decode cX6_digit 44 = .ok (.iconst 1, 1) := by decide +kernel
theorem dX6_digit_45 : decode cX6_digit 45 = .ok (.iadd, 1) := by decide +kernel
theorem dX6_digit_46 : decode cX6_digit 46 = .ok (.putfield 210, 3) := by decide +kernel
theorem dX6_digit_49 : decode cX6_digit 49 = .ok (.goto 11, 3) := by decide +kernel
theorem dX6_digit_52 : decode cX6_digit 52 = .ok (.aload_n 0, 1) := by decide +kernel
theorem dX6_digit_53 : decode cX6_digit 53 = .ok (.aload_n 0, 1) := by decide +kernel
theorem dX6_digit_54 : decode cX6_digit 54 = .ok (.getfield 210, 3) := by decide +kernel
theorem dX6_digit_57 : decode cX6_digit 57 = .ok (.invokevirtual 219, 3) := by decide +kernel
theorem dX6_digit_60 : decode cX6_digit 60 = .ok (.return_, 1) := by decide +kernel
theorem dX6_figures_0 : decode cX6_figures 0 = .ok (.aload_n 0, 1) := by decide +kernel
theorem dX6_figures_1 : decode cX6_figures 1 = .ok (.getfield 210, 3) := by decide +kernel
theorem dX6_figures_4 : decode cX6_figures 4 = .ok (.istore 4, 2) := by decide +kernel
theorem dX6_figures_6 : decode cX6_figures 6 = .ok (.aload_n 0, 1) := by decide +kernel
theorem dX6_figures_7 : decode cX6_figures 7 = .ok (.iconst 0, 1) := by decide +kernel
theorem dX6_figures_8 : decode cX6_figures 8 = .ok (.putfield 222, 3) := by decide +kernel
theorem dX6_figures_11 : decode cX6_figures 11 = .ok (.aload_n 0, 1) := by decide +kernel
theorem dX6_figures_12 : decode cX6_figures 12 = .ok (.getfield 213, 3) := by decide +kernel
theorem dX6_figures_15 : decode cX6_figures 15 = .ok (.iconst (-1), 1) := by decide +kernel
theorem dX6_figures_16 : decode cX6_figures 16 = .ok (.if_icmp .ne 71, 3) := by decide +kernel
theorem dX6_figures_19 : decode cX6_figures 19 = .ok (.aload_n 0, 1) := by decide +kernel
theorem dX6_figures_20 : decode cX6_figures 20 = .ok (.invokevirtual 216, 3) := by decide +kernel
theorem dX6_figures_23 : decode cX6_figures 23 = .ok (.bipush 48, 2) := by decide +kernel
theorem dX6_figures_25 : decode cX6_figures 25 = .ok (.bipush 57, 2) := by decide +kernel
theorem dX6_figures_27 : decode cX6_figures 27 = .ok (.invokestatic 68, 3) := by decide +kernel
theorem dX6_figures_30 : decode cX6_figures 30 = .ok (.ifCond .eq 57, 3) := by decide +kernel
theorem dX6_figures_33 : decode cX6_figures 33 = .ok (.aload_n 0, 1) := by decide +kernel
theorem dX6_figures_34 : decode cX6_figures 34 = .ok (.getfield 210, 3) := by decide +kernel
theorem dX6_figures_37 : decode cX6_figures 37 = .ok (.iload 4, 2) := by decide +kernel
theorem dX6_figures_39 : decode cX6_figures 39 = .ok (.isub, 1) := by decide +kernel
theorem dX6_figures_40 : decode cX6_figures 40 = .ok (.iload_n 1, 1) := by decide +kernel
theorem dX6_figures_41 : decode cX6_figures 41 = .ok (.if_icmp .ne 14, 3) := by decide +kernel
theorem dX6_figures_44 : decode cX6_figures 44 = .ok (.aload_n 0, 1) := by decide +kernel
theorem dX6_figures_45 : decode cX6_figures 45 = .ok (.aload_n 0, 1) := by decide +kernel
theorem dX6_figures_46 : decode cX6_figures 46 = .ok (.getfield 210, 3) := by decide +kernel
theorem dX6_figures_49 : decode cX6_figures 49 = .ok (.invokevirtual 219, 3) := by decide +kernel
theorem dX6_figures_52 : decode cX6_figures 52 = .ok (.goto (-41), 3) := by decide +kernel
theorem dX6_figures_55 : decode cX6_figures 55 = .ok (.aload_n 0, 1) := by decide +kernel
theorem dX6_figures_56 : decode cX6_figures 56 = .ok (.bipush 10, 2) := by decide +kernel
theorem dX6_figures_58 : decode cX6_figures 58 = .ok (.aload_n 0, 1) := by decide +kernel
theorem dX6_figures_59 : decode cX6_figures 59 = .ok (.getfield 222, 3) := by decide +kernel
theorem dX6_figures_62 : decode cX6_figures 62 = .ok (.imul, 1) := by decide +kernel
theorem dX6_figures_63 : decode cX6_figures 63 = .ok (.aload_n 0, 1) := by decide +kernel
theorem dX6_figures_64 : decode cX6_figures 64 = .ok (.invokevirtual 216, 3) := by decide +kernel
theorem dX6_figures_67 : decode cX6_figures 67 = .ok (.iadd, 1) := by decide +kernel
theorem dX6_figures_68 : decode cX6_figures 68 = .ok (.bipush 48, 2) := by decide +kernel
theorem dX6_figures_70 : decode cX6_figures 70 = .ok (.isub, 1) := by decide +kernel
theorem dX6_figures_71 : decode cX6_figures 71 = .ok (.putfield 222, 3) := by decide +kernel
theorem dX6_figures_74 : decode cX6_figures 74 = .ok (.aload_n 0, 1) := by decide +kernel
theorem dX6_figures_75 : decode cX6_figures 75 = .ok (.dup, 1) := by decide +kernel
theorem dX6_figures_76 : decode cX6_figures 76 = .ok (.getfield 210, 3) := by decide +kernel
theorem dX6_figures_79 : decode cX6_figures 79 = .ok (.iconst 1, 1) := by decide +kernel
theorem dX6_figures_80 : decode cX6_figures 80 = .ok (.iadd, 1) := by decide +kernel
theorem dX6_figures_81 : decode cX6_figures 81 = .ok (.putfield 210, 3) := by decide +kernel
theorem dX6_figures_84 : decode cX6_figures 84 = .ok (.goto (-73), 3) := by decide +kernel
theorem dX6_figures_87 : decode cX6_figures 87 = .ok (.aload_n 0, 1) := by decide +kernel
theorem dX6_figures_88 : decode cX6_figures 88 = .ok (.getfield 213, 3) := by decide +kernel
theorem dX6_figures_91 : decode cX6_figures 91 = .ok (.iconst (-1), 1) := by decide +kernel
theorem dX6_figures_92 : decode cX6_figures 92 = .ok (.if_icmp .ne 30, 3) := by decide +kernel
theorem dX6_figures_95 : decode cX6_figures 95 = .ok (.aload_n 0, 1) := by decide +kernel
theorem dX6_figures_96 : decode cX6_figures 96 = .ok (.getfield 210, 3) := by decide +kernel
theorem dX6_figures_99 : decode cX6_figures 99 = .ok (.iload 4, 2) := by decide +kernel
theorem dX6_figures_101 : decode cX6_figures 101 = .ok (.if_icmp .eq 15, 3) := by decide +kernel
theorem dX6_figures_104 : decode cX6_figures 104 = .ok (.aload_n 0, 1) := by decide +kernel
theorem dX6_figures_105 : decode cX6_figures 105 = .ok (.getfield 222, 3) := by decide +kernel
theorem dX6_figures_108 : decode cX6_figures 108 = .ok (.iload_n 2, 1) := by decide +kernel
theorem dX6_figures_109 : decode cX6_figures 109 = .ok (.iload_n 3, 1) := by decide +kernel
theorem dX6_figures_110 : decode cX6_figures 110 = .ok (.invokestatic 68, 3) := by decide +kernel
theorem dX6_figures_113 : decode cX6_figures 113 = .ok (.ifCond .ne 9, 3) := by decide +kernel
theorem dX6_figures_116 : decode cX6_figures 116 = .ok (.aload_n 0, 1) := by decide +kernel
theorem dX6_figures_117 : decode cX6_figures 117 = .ok (.iload 4, 2) := by decide +kernel
theorem dX6_figures_119 : decode cX6_figures 119 = .ok (.invokevirtual 219, 3) := by decide +kernel
theorem dX6_figures_122 : decode cX6_figures 122 = .ok (.return_, 1) := by decide +kernel
theorem dX6_readsOrder_0 : decode cX6_readsOrder 0 = .ok (.aload_n 0, 1) := by decide +kernel
theorem dX6_readsOrder_1 : decode cX6_readsOrder 1 = .ok (.invokevirtual 216, 3) := by decide +kernel
theorem dX6_readsOrder_4 : decode cX6_readsOrder 4 = .ok (.istore_n 1, 1) := by decide +kernel
theorem dX6_readsOrder_5 : decode cX6_readsOrder 5 = .ok (.aload_n 0, 1) := by decide +kernel
theorem dX6_readsOrder_6 : decode cX6_readsOrder 6 = .ok (.dup, 1) := by decide +kernel
theorem dX6_readsOrder_7 : decode cX6_readsOrder 7 = .ok (.getfield 210, 3) := by decide +kernel
theorem dX6_readsOrder_10 : decode cX6_readsOrder 10 = .ok (.iconst 1, 1) := by decide +kernel
theorem dX6_readsOrder_11 : decode cX6_readsOrder 11 = .ok (.iadd, 1) := by decide +kernel
theorem dX6_readsOrder_12 : decode cX6_readsOrder 12 = .ok (.putfield 210, 3) := by decide +kernel
theorem dX6_readsOrder_15 : decode cX6_readsOrder 15 = .ok (.iload_n 1, 1) := by decide +kernel
theorem dX6_readsOrder_16 : decode cX6_readsOrder 16 = .ok (.lookupswitch 176 #[(97, 173), (98, 173), (112, 52), (120, 149), (121, 149)], 52) := by decide +kernel
theorem dX6_readsOrder_68 : decode cX6_readsOrder 68 = .ok (.aload_n 0, 1) := by decide +kernel
theorem dX6_readsOrder_69 : decode cX6_readsOrder 69 = .ok (.iconst 0, 1) := by decide +kernel
theorem dX6_readsOrder_70 : decode cX6_readsOrder 70 = .ok (.bipush 6, 2) := by decide +kernel
theorem dX6_readsOrder_72 : decode cX6_readsOrder 72 = .ok (.invokevirtual 225, 3) := by decide +kernel
theorem dX6_readsOrder_75 : decode cX6_readsOrder 75 = .ok (.aload_n 0, 1) := by decide +kernel
theorem dX6_readsOrder_76 : decode cX6_readsOrder 76 = .ok (.getfield 52, 3) := by decide +kernel
theorem dX6_readsOrder_79 : decode cX6_readsOrder 79 = .ok (.aload_n 0, 1) := by decide +kernel
theorem dX6_readsOrder_80 : decode cX6_readsOrder 80 = .ok (.getfield 229, 3) := by decide +kernel
theorem dX6_readsOrder_83 : decode cX6_readsOrder 83 = .ok (.aload_n 0, 1) := by decide +kernel
theorem dX6_readsOrder_84 : decode cX6_readsOrder 84 = .ok (.getfield 222, 3) := by decide +kernel
theorem dX6_readsOrder_87 : decode cX6_readsOrder 87 = .ok (.iastore, 1) := by decide +kernel
theorem dX6_readsOrder_88 : decode cX6_readsOrder 88 = .ok (.aload_n 0, 1) := by decide +kernel
theorem dX6_readsOrder_89 : decode cX6_readsOrder 89 = .ok (.iconst 0, 1) := by decide +kernel
theorem dX6_readsOrder_90 : decode cX6_readsOrder 90 = .ok (.bipush 6, 2) := by decide +kernel
theorem dX6_readsOrder_92 : decode cX6_readsOrder 92 = .ok (.invokevirtual 225, 3) := by decide +kernel
theorem dX6_readsOrder_95 : decode cX6_readsOrder 95 = .ok (.aload_n 0, 1) := by decide +kernel
theorem dX6_readsOrder_96 : decode cX6_readsOrder 96 = .ok (.getfield 55, 3) := by decide +kernel
theorem dX6_readsOrder_99 : decode cX6_readsOrder 99 = .ok (.aload_n 0, 1) := by decide +kernel
theorem dX6_readsOrder_100 : decode cX6_readsOrder 100 = .ok (.getfield 229, 3) := by decide +kernel
theorem dX6_readsOrder_103 : decode cX6_readsOrder 103 = .ok (.aload_n 0, 1) := by decide +kernel
theorem dX6_readsOrder_104 : decode cX6_readsOrder 104 = .ok (.getfield 222, 3) := by decide +kernel
theorem dX6_readsOrder_107 : decode cX6_readsOrder 107 = .ok (.iastore, 1) := by decide +kernel
theorem dX6_readsOrder_108 : decode cX6_readsOrder 108 = .ok (.aload_n 0, 1) := by decide +kernel
theorem dX6_readsOrder_109 : decode cX6_readsOrder 109 = .ok (.bipush 58, 2) := by decide +kernel
theorem dX6_readsOrder_111 : decode cX6_readsOrder 111 = .ok (.invokevirtual 232, 3) := by decide +kernel
theorem dX6_readsOrder_114 : decode cX6_readsOrder 114 = .ok (.aload_n 0, 1) := by decide +kernel
theorem dX6_readsOrder_115 : decode cX6_readsOrder 115 = .ok (.iconst 4, 1) := by decide +kernel
theorem dX6_readsOrder_116 : decode cX6_readsOrder 116 = .ok (.iconst 1, 1) := by decide +kernel
theorem dX6_readsOrder_117 : decode cX6_readsOrder 117 = .ok (.sipush 1000, 3) := by decide +kernel
theorem dX6_readsOrder_120 : decode cX6_readsOrder 120 = .ok (.invokevirtual 235, 3) := by decide +kernel
theorem dX6_readsOrder_123 : decode cX6_readsOrder 123 = .ok (.aload_n 0, 1) := by decide +kernel
theorem dX6_readsOrder_124 : decode cX6_readsOrder 124 = .ok (.getfield 58, 3) := by decide +kernel
theorem dX6_readsOrder_127 : decode cX6_readsOrder 127 = .ok (.aload_n 0, 1) := by decide +kernel
theorem dX6_readsOrder_128 : decode cX6_readsOrder 128 = .ok (.getfield 229, 3) := by decide +kernel
theorem dX6_readsOrder_131 : decode cX6_readsOrder 131 = .ok (.aload_n 0, 1) := by decide +kernel
theorem dX6_readsOrder_132 : decode cX6_readsOrder 132 = .ok (.getfield 222, 3) := by decide +kernel
theorem dX6_readsOrder_135 : decode cX6_readsOrder 135 = .ok (.iastore, 1) := by decide +kernel
theorem dX6_readsOrder_136 : decode cX6_readsOrder 136 = .ok (.aload_n 0, 1) := by decide +kernel
theorem dX6_readsOrder_137 : decode cX6_readsOrder 137 = .ok (.bipush 44, 2) := by decide +kernel
theorem dX6_readsOrder_139 : decode cX6_readsOrder 139 = .ok (.invokevirtual 232, 3) := by decide +kernel
theorem dX6_readsOrder_142 : decode cX6_readsOrder 142 = .ok (.aload_n 0, 1) := by decide +kernel
theorem dX6_readsOrder_143 : decode cX6_readsOrder 143 = .ok (.iconst 1, 1) := by decide +kernel
theorem dX6_readsOrder_144 : decode cX6_readsOrder 144 = .ok (.bipush 9, 2) := by decide +kernel
theorem dX6_readsOrder_146 : decode cX6_readsOrder 146 = .ok (.invokevirtual 225, 3) := by decide +kernel
theorem dX6_readsOrder_149 : decode cX6_readsOrder 149 = .ok (.aload_n 0, 1) := by decide +kernel
theorem dX6_readsOrder_150 : decode cX6_readsOrder 150 = .ok (.getfield 61, 3) := by decide +kernel
theorem dX6_readsOrder_153 : decode cX6_readsOrder 153 = .ok (.aload_n 0, 1) := by decide +kernel
theorem dX6_readsOrder_154 : decode cX6_readsOrder 154 = .ok (.getfield 229, 3) := by decide +kernel
theorem dX6_readsOrder_157 : decode cX6_readsOrder 157 = .ok (.aload_n 0, 1) := by decide +kernel
theorem dX6_readsOrder_158 : decode cX6_readsOrder 158 = .ok (.getfield 222, 3) := by decide +kernel
theorem dX6_readsOrder_161 : decode cX6_readsOrder 161 = .ok (.iastore, 1) := by decide +kernel
theorem dX6_readsOrder_162 : decode cX6_readsOrder 162 = .ok (.goto 40, 3) := by decide +kernel
theorem dX6_readsOrder_165 : decode cX6_readsOrder 165 = .ok (.aload_n 0, 1) := by decide +kernel
theorem dX6_readsOrder_166 : decode cX6_readsOrder 166 = .ok (.iconst 2, 1) := by decide +kernel
theorem dX6_readsOrder_167 : decode cX6_readsOrder 167 = .ok (.iconst 0, 1) := by decide +kernel
theorem dX6_readsOrder_168 : decode cX6_readsOrder 168 = .ok (.bipush 99, 2) := by decide +kernel
theorem dX6_readsOrder_170 : decode cX6_readsOrder 170 = .ok (.invokevirtual 235, 3) := by decide +kernel
theorem dX6_readsOrder_173 : decode cX6_readsOrder 173 = .ok (.aload_n 0, 1) := by decide +kernel
theorem dX6_readsOrder_174 : decode cX6_readsOrder 174 = .ok (.getfield 52, 3) := by decide +kernel
theorem dX6_readsOrder_177 : decode cX6_readsOrder 177 = .ok (.aload_n 0, 1) := by decide +kernel
theorem dX6_readsOrder_178 : decode cX6_readsOrder 178 = .ok (.getfield 229, 3) := by decide +kernel
theorem dX6_readsOrder_181 : decode cX6_readsOrder 181 = .ok (.aload_n 0, 1) := by decide +kernel
theorem dX6_readsOrder_182 : decode cX6_readsOrder 182 = .ok (.getfield 222, 3) := by decide +kernel
theorem dX6_readsOrder_185 : decode cX6_readsOrder 185 = .ok (.iastore, 1) := by decide +kernel
theorem dX6_readsOrder_186 : decode cX6_readsOrder 186 = .ok (.goto 16, 3) := by decide +kernel
theorem dX6_readsOrder_189 : decode cX6_readsOrder 189 = .ok (.goto 13, 3) := by decide +kernel
theorem dX6_readsOrder_192 : decode cX6_readsOrder 192 = .ok (.aload_n 0, 1) := by decide +kernel
theorem dX6_readsOrder_193 : decode cX6_readsOrder 193 = .ok (.aload_n 0, 1) := by decide +kernel
theorem dX6_readsOrder_194 : decode cX6_readsOrder 194 = .ok (.getfield 210, 3) := by decide +kernel
theorem dX6_readsOrder_197 : decode cX6_readsOrder 197 = .ok (.iconst 1, 1) := by decide +kernel
theorem dX6_readsOrder_198 : decode cX6_readsOrder 198 = .ok (.isub, 1) := by decide +kernel
theorem dX6_readsOrder_199 : decode cX6_readsOrder 199 = .ok (.invokevirtual 219, 3) := by decide +kernel
theorem dX6_readsOrder_202 : decode cX6_readsOrder 202 = .ok (.aload_n 0, 1) := by decide +kernel
theorem dX6_readsOrder_203 : decode cX6_readsOrder 203 = .ok (.bipush 59, 2) := by decide +kernel
theorem dX6_readsOrder_205 : decode cX6_readsOrder 205 = .ok (.invokevirtual 232, 3) := by decide +kernel
theorem dX6_readsOrder_208 : decode cX6_readsOrder 208 = .ok (.aload_n 0, 1) := by decide +kernel
theorem dX6_readsOrder_209 : decode cX6_readsOrder 209 = .ok (.getfield 213, 3) := by decide +kernel
theorem dX6_readsOrder_212 : decode cX6_readsOrder 212 = .ok (.iconst (-1), 1) := by decide +kernel
theorem dX6_readsOrder_213 : decode cX6_readsOrder 213 = .ok (.if_icmp .ne 23, 3) := by decide +kernel
theorem dX6_readsOrder_216 : decode cX6_readsOrder 216 = .ok (.aload_n 0, 1) := by decide +kernel
theorem dX6_readsOrder_217 : decode cX6_readsOrder 217 = .ok (.getfield 49, 3) := by decide +kernel
theorem dX6_readsOrder_220 : decode cX6_readsOrder 220 = .ok (.aload_n 0, 1) := by decide +kernel
theorem dX6_readsOrder_221 : decode cX6_readsOrder 221 = .ok (.getfield 229, 3) := by decide +kernel
theorem dX6_readsOrder_224 : decode cX6_readsOrder 224 = .ok (.iload_n 1, 1) := by decide +kernel
theorem dX6_readsOrder_225 : decode cX6_readsOrder 225 = .ok (.iastore, 1) := by decide +kernel
theorem dX6_readsOrder_226 : decode cX6_readsOrder 226 = .ok (.aload_n 0, 1) := by decide +kernel
theorem dX6_readsOrder_227 : decode cX6_readsOrder 227 = .ok (.dup, 1) := by decide +kernel
theorem dX6_readsOrder_228 : decode cX6_readsOrder 228 = .ok (.getfield 229, 3) := by decide +kernel
theorem dX6_readsOrder_231 : decode cX6_readsOrder 231 = .ok (.iconst 1, 1) := by decide +kernel
theorem dX6_readsOrder_232 : decode cX6_readsOrder 232 = .ok (.iadd, 1) := by decide +kernel
theorem dX6_readsOrder_233 : decode cX6_readsOrder 233 = .ok (.putfield 229, 3) := by decide +kernel
theorem dX6_readsOrder_236 : decode cX6_readsOrder 236 = .ok (.return_, 1) := by decide +kernel
theorem dX6_can_0 : decode cX6_can 0 = .ok (.aload_n 0, 1) := by decide +kernel
theorem dX6_can_1 : decode cX6_can 1 = .ok (.getfield 52, 3) := by decide +kernel
theorem dX6_can_4 : decode cX6_can 4 = .ok (.iload_n 1, 1) := by decide +kernel
theorem dX6_can_5 : decode cX6_can 5 = .ok (.iaload, 1) := by decide +kernel
theorem dX6_can_6 : decode cX6_can 6 = .ok (.istore_n 2, 1) := by decide +kernel
theorem dX6_can_7 : decode cX6_can 7 = .ok (.aload_n 0, 1) := by decide +kernel
theorem dX6_can_8 : decode cX6_can 8 = .ok (.getfield 49, 3) := by decide +kernel
theorem dX6_can_11 : decode cX6_can 11 = .ok (.iload_n 1, 1) := by decide +kernel
theorem dX6_can_12 : decode cX6_can 12 = .ok (.iaload, 1) := by decide +kernel
theorem dX6_can_13 : decode cX6_can 13 = .ok (.lookupswitch 150 #[(98, 141), (112, 43), (120, 91), (121, 113)], 43) := by decide +kernel
theorem dX6_can_56 : decode cX6_can 56 = .ok (.aload_n 0, 1) := by decide +kernel
theorem dX6_can_57 : decode cX6_can 57 = .ok (.iload_n 2, 1) := by decide +kernel
theorem dX6_can_58 : decode cX6_can 58 = .ok (.invokevirtual 153, 3) := by decide +kernel
theorem dX6_can_61 : decode cX6_can 61 = .ok (.ifCond .eq 41, 3) := by decide +kernel
theorem dX6_can_64 : decode cX6_can 64 = .ok (.aload_n 0, 1) := by decide +kernel
theorem dX6_can_65 : decode cX6_can 65 = .ok (.aload_n 0, 1) := by decide +kernel
theorem dX6_can_66 : decode cX6_can 66 = .ok (.getfield 55, 3) := by decide +kernel
theorem dX6_can_69 : decode cX6_can 69 = .ok (.iload_n 1, 1) := by decide +kernel
theorem dX6_can_70 : decode cX6_can 70 = .ok (.iaload, 1) := by decide +kernel
theorem dX6_can_71 : decode cX6_can 71 = .ok (.invokevirtual 153, 3) := by decide +kernel
theorem dX6_can_74 : decode cX6_can 74 = .ok (.ifCond .eq 28, 3) := by decide +kernel
theorem dX6_can_77 : decode cX6_can 77 = .ok (.iload_n 2, 1) := by decide +kernel
theorem dX6_can_78 : decode cX6_can 78 = .ok (.aload_n 0, 1) := by decide +kernel
theorem dX6_can_79 : decode cX6_can 79 = .ok (.getfield 55, 3) := by decide +kernel
theorem dX6_can_82 : decode cX6_can 82 = .ok (.iload_n 1, 1) := by decide +kernel
theorem dX6_can_83 : decode cX6_can 83 = .ok (.iaload, 1) := by decide +kernel
theorem dX6_can_84 : decode cX6_can 84 = .ok (.if_icmp .eq 18, 3) := by decide +kernel
theorem dX6_can_87 : decode cX6_can 87 = .ok (.aload_n 0, 1) := by decide +kernel
theorem dX6_can_88 : decode cX6_can 88 = .ok (.getfield 7, 3) := by decide +kernel
theorem dX6_can_91 : decode cX6_can 91 = .ok (.iconst 1, 1) := by decide +kernel
theorem dX6_can_92 : decode cX6_can 92 = .ok (.iaload, 1) := by decide +kernel
theorem dX6_can_93 : decode cX6_can 93 = .ok (.bipush 40, 2) := by decide +kernel
theorem dX6_can_95 : decode cX6_can 95 = .ok (.if_icmp .ge 7, 3) := by decide +kernel
theorem dX6_can_98 : decode cX6_can 98 = .ok (.iconst 1, 1) := by decide +kernel
theorem dX6_can_99 : decode cX6_can 99 = .ok (.goto 4, 3) := by decide +kernel
theorem dX6_can_102 : decode cX6_can 102 = .ok (.iconst 0, 1) := by decide +kernel
theorem dX6_can_103 : decode cX6_can 103 = .ok (.ireturn, 1) := by decide +kernel
theorem dX6_can_104 : decode cX6_can 104 = .ok (.aload_n 0, 1) := by decide +kernel
theorem dX6_can_105 : decode cX6_can 105 = .ok (.iload_n 2, 1) := by decide +kernel
theorem dX6_can_106 : decode cX6_can 106 = .ok (.invokevirtual 160, 3) := by decide +kernel
theorem dX6_can_109 : decode cX6_can 109 = .ok (.ifCond .eq 15, 3) := by decide +kernel
theorem dX6_can_112 : decode cX6_can 112 = .ok (.aload_n 0, 1) := by decide +kernel
theorem dX6_can_113 : decode cX6_can 113 = .ok (.iload_n 2, 1) := by decide +kernel
theorem dX6_can_114 : decode cX6_can 114 = .ok (.invokevirtual 163, 3) := by decide +kernel
theorem dX6_can_117 : decode cX6_can 117 = .ok (.ifCond .eq 7, 3) := by decide +kernel
theorem dX6_can_120 : decode cX6_can 120 = .ok (.iconst 1, 1) := by decide +kernel
theorem dX6_can_121 : decode cX6_can 121 = .ok (.goto 4, 3) := by decide +kernel
theorem dX6_can_124 : decode cX6_can 124 = .ok (.iconst 0, 1) := by decide +kernel
theorem dX6_can_125 : decode cX6_can 125 = .ok (.ireturn, 1) := by decide +kernel
theorem dX6_can_126 : decode cX6_can 126 = .ok (.aload_n 0, 1) := by decide +kernel
theorem dX6_can_127 : decode cX6_can 127 = .ok (.iload_n 2, 1) := by decide +kernel
theorem dX6_can_128 : decode cX6_can 128 = .ok (.invokevirtual 160, 3) := by decide +kernel
theorem dX6_can_131 : decode cX6_can 131 = .ok (.ifCond .eq 21, 3) := by decide +kernel
theorem dX6_can_134 : decode cX6_can 134 = .ok (.aload_n 0, 1) := by decide +kernel
theorem dX6_can_135 : decode cX6_can 135 = .ok (.getfield 7, 3) := by decide +kernel
theorem dX6_can_138 : decode cX6_can 138 = .ok (.iload_n 2, 1) := by decide +kernel
theorem dX6_can_139 : decode cX6_can 139 = .ok (.iconst 4, 1) := by decide +kernel
theorem dX6_can_140 : decode cX6_can 140 = .ok (.invokestatic 79, 3) := by decide +kernel
theorem dX6_can_143 : decode cX6_can 143 = .ok (.iaload, 1) := by decide +kernel
theorem dX6_can_144 : decode cX6_can 144 = .ok (.iconst 1, 1) := by decide +kernel
theorem dX6_can_145 : decode cX6_can 145 = .ok (.if_icmp .ne 7, 3) := by decide +kernel
theorem dX6_can_148 : decode cX6_can 148 = .ok (.iconst 1, 1) := by decide +kernel
theorem dX6_can_149 : decode cX6_can 149 = .ok (.goto 4, 3) := by decide +kernel
theorem dX6_can_152 : decode cX6_can 152 = .ok (.iconst 0, 1) := by decide +kernel
theorem dX6_can_153 : decode cX6_can 153 = .ok (.ireturn, 1) := by decide +kernel
theorem dX6_can_154 : decode cX6_can 154 = .ok (.aload_n 0, 1) := by decide +kernel
theorem dX6_can_155 : decode cX6_can 155 = .ok (.aload_n 0, 1) := by decide +kernel
theorem dX6_can_156 : decode cX6_can 156 = .ok (.getfield 7, 3) := by decide +kernel
theorem dX6_can_159 : decode cX6_can 159 = .ok (.invokevirtual 138, 3) := by decide +kernel
theorem dX6_can_162 : decode cX6_can 162 = .ok (.ireturn, 1) := by decide +kernel
theorem dX6_can_163 : decode cX6_can 163 = .ok (.iconst 1, 1) := by decide +kernel
theorem dX6_can_164 : decode cX6_can 164 = .ok (.ireturn, 1) := by decide +kernel
theorem dX6_does_0 : decode cX6_does 0 = .ok (.aload_n 0, 1) := by decide +kernel
theorem dX6_does_1 : decode cX6_does 1 = .ok (.getfield 49, 3) := by decide +kernel
theorem dX6_does_4 : decode cX6_does 4 = .ok (.iload_n 1, 1) := by decide +kernel
theorem dX6_does_5 : decode cX6_does 5 = .ok (.iaload, 1) := by decide +kernel
theorem dX6_does_6 : decode cX6_does 6 = .ok (.lookupswitch 88 #[(97, 76), (98, 65), (112, 34)], 34) := by decide +kernel
theorem dX6_does_40 : decode cX6_does 40 = .ok (.aload_n 0, 1) := by decide +kernel
theorem dX6_does_41 : decode cX6_does 41 = .ok (.aload_n 0, 1) := by decide +kernel
theorem dX6_does_42 : decode cX6_does 42 = .ok (.getfield 52, 3) := by decide +kernel
theorem dX6_does_45 : decode cX6_does 45 = .ok (.iload_n 1, 1) := by decide +kernel
theorem dX6_does_46 : decode cX6_does 46 = .ok (.iaload, 1) := by decide +kernel
theorem dX6_does_47 : decode cX6_does 47 = .ok (.aload_n 0, 1) := by decide +kernel
theorem dX6_does_48 : decode cX6_does 48 = .ok (.getfield 55, 3) := by decide +kernel
theorem dX6_does_51 : decode cX6_does 51 = .ok (.iload_n 1, 1) := by decide +kernel
theorem dX6_does_52 : decode cX6_does 52 = .ok (.iaload, 1) := by decide +kernel
theorem dX6_does_53 : decode cX6_does 53 = .ok (.aload_n 0, 1) := by decide +kernel
theorem dX6_does_54 : decode cX6_does 54 = .ok (.getfield 58, 3) := by decide +kernel
theorem dX6_does_57 : decode cX6_does 57 = .ok (.iload_n 1, 1) := by decide +kernel
theorem dX6_does_58 : decode cX6_does 58 = .ok (.iaload, 1) := by decide +kernel
theorem dX6_does_59 : decode cX6_does 59 = .ok (.aload_n 0, 1) := by decide +kernel
theorem dX6_does_60 : decode cX6_does 60 = .ok (.getfield 61, 3) := by decide +kernel
theorem dX6_does_63 : decode cX6_does 63 = .ok (.iload_n 1, 1) := by decide +kernel
theorem dX6_does_64 : decode cX6_does 64 = .ok (.iaload, 1) := by decide +kernel
theorem dX6_does_65 : decode cX6_does 65 = .ok (.invokevirtual 156, 3) := by decide +kernel
theorem dX6_does_68 : decode cX6_does 68 = .ok (.goto 57, 3) := by decide +kernel
theorem dX6_does_71 : decode cX6_does 71 = .ok (.aload_n 0, 1) := by decide +kernel
theorem dX6_does_72 : decode cX6_does 72 = .ok (.aload_n 0, 1) := by decide +kernel
theorem dX6_does_73 : decode cX6_does 73 = .ok (.getfield 7, 3) := by decide +kernel
theorem dX6_does_76 : decode cX6_does 76 = .ok (.invokevirtual 142, 3) := by decide +kernel
theorem dX6_does_79 : decode cX6_does 79 = .ok (.goto 46, 3) := by decide +kernel
theorem dX6_does_82 : decode cX6_does 82 = .ok (.aload_n 0, 1) := by decide +kernel
theorem dX6_does_83 : decode cX6_does 83 = .ok (.aload_n 0, 1) := by decide +kernel
theorem dX6_does_84 : decode cX6_does 84 = .ok (.getfield 7, 3) := by decide +kernel
theorem dX6_does_87 : decode cX6_does 87 = .ok (.invokevirtual 172, 3) := by decide +kernel
theorem dX6_does_90 : decode cX6_does 90 = .ok (.pop, 1) := by decide +kernel
theorem dX6_does_91 : decode cX6_does 91 = .ok (.goto 34, 3) := by decide +kernel
theorem dX6_does_94 : decode cX6_does 94 = .ok (.aload_n 0, 1) := by decide +kernel
theorem dX6_does_95 : decode cX6_does 95 = .ok (.getfield 7, 3) := by decide +kernel
theorem dX6_does_98 : decode cX6_does 98 = .ok (.aload_n 0, 1) := by decide +kernel
theorem dX6_does_99 : decode cX6_does 99 = .ok (.getfield 52, 3) := by decide +kernel
theorem dX6_does_102 : decode cX6_does 102 = .ok (.iload_n 1, 1) := by decide +kernel
theorem dX6_does_103 : decode cX6_does 103 = .ok (.iaload, 1) := by decide +kernel
theorem dX6_does_104 : decode cX6_does 104 = .ok (.iconst 4, 1) := by decide +kernel
theorem dX6_does_105 : decode cX6_does 105 = .ok (.invokestatic 79, 3) := by decide +kernel
theorem dX6_does_108 : decode cX6_does 108 = .ok (.aload_n 0, 1) := by decide +kernel
theorem dX6_does_109 : decode cX6_does 109 = .ok (.getfield 49, 3) := by decide +kernel
theorem dX6_does_112 : decode cX6_does 112 = .ok (.iload_n 1, 1) := by decide +kernel
theorem dX6_does_113 : decode cX6_does 113 = .ok (.iaload, 1) := by decide +kernel
theorem dX6_does_114 : decode cX6_does 114 = .ok (.bipush 120, 2) := by decide +kernel
theorem dX6_does_116 : decode cX6_does 116 = .ok (.if_icmp .ne 7, 3) := by decide +kernel
theorem dX6_does_119 : decode cX6_does 119 = .ok (.iconst 1, 1) := by decide +kernel
theorem dX6_does_120 : decode cX6_does 120 = .ok (.goto 4, 3) := by decide +kernel
theorem dX6_does_123 : decode cX6_does 123 = .ok (.iconst 0, 1) := by decide +kernel
theorem dX6_does_124 : decode cX6_does 124 = .ok (.iastore, 1) := by decide +kernel
theorem dX6_does_125 : decode cX6_does 125 = .ok (.return_, 1) := by decide +kernel
theorem dX6_carryOut_0 : decode cX6_carryOut 0 = .ok (.aload_n 0, 1) := by decide +kernel
theorem dX6_carryOut_1 : decode cX6_carryOut 1 = .ok (.iconst 0, 1) := by decide +kernel
theorem dX6_carryOut_2 : decode cX6_carryOut 2 = .ok (.iconst 0, 1) := by decide +kernel
theorem dX6_carryOut_3 : decode cX6_carryOut 3 = .ok (.iconst 0, 1) := by decide +kernel
theorem dX6_carryOut_4 : decode cX6_carryOut 4 = .ok (.invokevirtual 146, 3) := by decide +kernel
theorem dX6_carryOut_7 : decode cX6_carryOut 7 = .ok (.pop, 1) := by decide +kernel
theorem dX6_carryOut_8 : decode cX6_carryOut 8 = .ok (.aload_n 0, 1) := by decide +kernel
theorem dX6_carryOut_9 : decode cX6_carryOut 9 = .ok (.iconst 0, 1) := by decide +kernel
theorem dX6_carryOut_10 : decode cX6_carryOut 10 = .ok (.putfield 210, 3) := by decide +kernel
theorem dX6_carryOut_13 : decode cX6_carryOut 13 = .ok (.aload_n 0, 1) := by decide +kernel
theorem dX6_carryOut_14 : decode cX6_carryOut 14 = .ok (.iconst (-1), 1) := by decide +kernel
theorem dX6_carryOut_15 : decode cX6_carryOut 15 = .ok (.putfield 213, 3) := by decide +kernel
theorem dX6_carryOut_18 : decode cX6_carryOut 18 = .ok (.aload_n 0, 1) := by decide +kernel
theorem dX6_carryOut_19 : decode cX6_carryOut 19 = .ok (.iconst 0, 1) := by decide +kernel
theorem dX6_carryOut_20 : decode cX6_carryOut 20 = .ok (.putfield 229, 3) := by decide +kernel
theorem dX6_carryOut_23 : decode cX6_carryOut 23 = .ok (.aload_n 0, 1) := by decide +kernel
theorem dX6_carryOut_24 : decode cX6_carryOut 24 = .ok (.getfield 213, 3) := by decide +kernel
theorem dX6_carryOut_27 : decode cX6_carryOut 27 = .ok (.iconst (-1), 1) := by decide +kernel
theorem dX6_carryOut_28 : decode cX6_carryOut 28 = .ok (.if_icmp .ne 21, 3) := by decide +kernel
theorem dX6_carryOut_31 : decode cX6_carryOut 31 = .ok (.aload_n 0, 1) := by decide +kernel
theorem dX6_carryOut_32 : decode cX6_carryOut 32 = .ok (.getfield 210, 3) := by decide +kernel
theorem dX6_carryOut_35 : decode cX6_carryOut 35 = .ok (.aload_n 0, 1) := by decide +kernel
theorem dX6_carryOut_36 : decode cX6_carryOut 36 = .ok (.getfield 207, 3) := by decide +kernel
theorem dX6_carryOut_39 : decode cX6_carryOut 39 = .ok (.if_icmp .ge 10, 3) := by decide +kernel
theorem dX6_carryOut_42 : decode cX6_carryOut 42 = .ok (.aload_n 0, 1) := by decide +kernel
theorem dX6_carryOut_43 : decode cX6_carryOut 43 = .ok (.invokevirtual 239, 3) := by decide +kernel
theorem dX6_carryOut_46 : decode cX6_carryOut 46 = .ok (.goto (-23), 3) := by decide +kernel
theorem dX6_carryOut_49 : decode cX6_carryOut 49 = .ok (.aload_n 0, 1) := by decide +kernel
theorem dX6_carryOut_50 : decode cX6_carryOut 50 = .ok (.getfield 213, 3) := by decide +kernel
theorem dX6_carryOut_53 : decode cX6_carryOut 53 = .ok (.iconst (-1), 1) := by decide +kernel
theorem dX6_carryOut_54 : decode cX6_carryOut 54 = .ok (.if_icmp .eq 11, 3) := by decide +kernel
theorem dX6_carryOut_57 : decode cX6_carryOut 57 = .ok (.bipush (-10), 2) := by decide +kernel
theorem dX6_carryOut_59 : decode cX6_carryOut 59 = .ok (.aload_n 0, 1) := by decide +kernel
theorem dX6_carryOut_60 : decode cX6_carryOut 60 = .ok (.getfield 213, 3) := by decide +kernel
theorem dX6_carryOut_63 : decode cX6_carryOut 63 = .ok (.isub, 1) := by decide +kernel
theorem dX6_carryOut_64 : decode cX6_carryOut 64 = .ok (.ireturn, 1) := by decide +kernel
theorem dX6_carryOut_65 : decode cX6_carryOut 65 = .ok (.aload_n 0, 1) := by decide +kernel
theorem dX6_carryOut_66 : decode cX6_carryOut 66 = .ok (.invokevirtual 150, 3) := by decide +kernel
theorem dX6_carryOut_69 : decode cX6_carryOut 69 = .ok (.iconst 0, 1) := by decide +kernel
theorem dX6_carryOut_70 : decode cX6_carryOut 70 = .ok (.istore_n 1, 1) := by decide +kernel
theorem dX6_carryOut_71 : decode cX6_carryOut 71 = .ok (.iload_n 1, 1) := by decide +kernel
theorem dX6_carryOut_72 : decode cX6_carryOut 72 = .ok (.aload_n 0, 1) := by decide +kernel
theorem dX6_carryOut_73 : decode cX6_carryOut 73 = .ok (.getfield 229, 3) := by decide +kernel
theorem dX6_carryOut_76 : decode cX6_carryOut 76 = .ok (.if_icmp .ge 22, 3) := by decide +kernel
theorem dX6_carryOut_79 : decode cX6_carryOut 79 = .ok (.aload_n 0, 1) := by decide +kernel
theorem dX6_carryOut_80 : decode cX6_carryOut 80 = .ok (.iload_n 1, 1) := by decide +kernel
theorem dX6_carryOut_81 : decode cX6_carryOut 81 = .ok (.invokevirtual 242, 3) := by decide +kernel
theorem dX6_carryOut_84 : decode cX6_carryOut 84 = .ok (.ifCond .eq 14, 3) := by decide +kernel
theorem dX6_carryOut_87 : decode cX6_carryOut 87 = .ok (.aload_n 0, 1) := by decide +kernel
theorem dX6_carryOut_88 : decode cX6_carryOut 88 = .ok (.iload_n 1, 1) := by decide +kernel
theorem dX6_carryOut_89 : decode cX6_carryOut 89 = .ok (.invokevirtual 245, 3) := by decide +kernel
theorem dX6_carryOut_92 : decode cX6_carryOut 92 = .ok (.iinc 1 1, 3) := by decide +kernel
theorem dX6_carryOut_95 : decode cX6_carryOut 95 = .ok (.goto (-24), 3) := by decide +kernel
theorem dX6_carryOut_98 : decode cX6_carryOut 98 = .ok (.iload_n 1, 1) := by decide +kernel
theorem dX6_carryOut_99 : decode cX6_carryOut 99 = .ok (.ireturn, 1) := by decide +kernel
theorem dX6_undo_0 : decode cX6_undo 0 = .ok (.aload_n 0, 1) := by decide +kernel
theorem dX6_undo_1 : decode cX6_undo 1 = .ok (.aload_n 0, 1) := by decide +kernel
theorem dX6_undo_2 : decode cX6_undo 2 = .ok (.getfield 72, 3) := by decide +kernel
theorem dX6_undo_5 : decode cX6_undo 5 = .ok (.ifCond .ne 7, 3) := by decide +kernel
theorem dX6_undo_8 : decode cX6_undo 8 = .ok (.iconst 1, 1) := by decide +kernel
theorem dX6_undo_9 : decode cX6_undo 9 = .ok (.goto 4, 3) := by decide +kernel
theorem dX6_undo_12 : decode cX6_undo 12 = .ok (.iconst 0, 1) := by decide +kernel
theorem dX6_undo_13 : decode cX6_undo 13 = .ok (.iconst 0, 1) := by decide +kernel
theorem dX6_undo_14 : decode cX6_undo 14 = .ok (.iconst 0, 1) := by decide +kernel
theorem dX6_undo_15 : decode cX6_undo 15 = .ok (.invokevirtual 146, 3) := by decide +kernel
theorem dX6_undo_18 : decode cX6_undo 18 = .ok (.ifCond .ne 5, 3) := by decide +kernel
theorem dX6_undo_21 : decode cX6_undo 21 = .ok (.iconst 0, 1) := by decide +kernel
theorem dX6_undo_22 : decode cX6_undo 22 = .ok (.ireturn, 1) := by decide +kernel
theorem dX6_undo_23 : decode cX6_undo 23 = .ok (.aload_n 0, 1) := by decide +kernel
theorem dX6_undo_24 : decode cX6_undo 24 = .ok (.dup, 1) := by decide +kernel
theorem dX6_undo_25 : decode cX6_undo 25 = .ok (.getfield 72, 3) := by decide +kernel
theorem dX6_undo_28 : decode cX6_undo 28 = .ok (.iconst 1, 1) := by decide +kernel
theorem dX6_undo_29 : decode cX6_undo 29 = .ok (.isub, 1) := by decide +kernel
theorem dX6_undo_30 : decode cX6_undo 30 = .ok (.putfield 72, 3) := by decide +kernel
theorem dX6_undo_33 : decode cX6_undo 33 = .ok (.aload_n 0, 1) := by decide +kernel
theorem dX6_undo_34 : decode cX6_undo 34 = .ok (.getfield 16, 3) := by decide +kernel
theorem dX6_undo_37 : decode cX6_undo 37 = .ok (.sipush 325, 3) := by decide +kernel
theorem dX6_undo_40 : decode cX6_undo 40 = .ok (.aload_n 0, 1) := by decide +kernel
theorem dX6_undo_41 : decode cX6_undo 41 = .ok (.getfield 72, 3) := by decide +kernel
theorem dX6_undo_44 : decode cX6_undo 44 = .ok (.imul, 1) := by decide +kernel
theorem dX6_undo_45 : decode cX6_undo 45 = .ok (.aload_n 0, 1) := by decide +kernel
theorem dX6_undo_46 : decode cX6_undo 46 = .ok (.getfield 7, 3) := by decide +kernel
theorem dX6_undo_49 : decode cX6_undo 49 = .ok (.iconst 0, 1) := by decide +kernel
theorem dX6_undo_50 : decode cX6_undo 50 = .ok (.invokestatic 75, 3) := by decide +kernel
theorem dX6_undo_53 : decode cX6_undo 53 = .ok (.aload_n 0, 1) := by decide +kernel
theorem dX6_undo_54 : decode cX6_undo 54 = .ok (.getfield 72, 3) := by decide +kernel
theorem dX6_undo_57 : decode cX6_undo 57 = .ok (.ireturn, 1) := by decide +kernel
theorem dX6_digest_0 : decode cX6_digest 0 = .ok (.aload_n 0, 1) := by decide +kernel
theorem dX6_digest_1 : decode cX6_digest 1 = .ok (.iconst 0, 1) := by decide +kernel
theorem dX6_digest_2 : decode cX6_digest 2 = .ok (.iconst 0, 1) := by decide +kernel
theorem dX6_digest_3 : decode cX6_digest 3 = .ok (.iconst 0, 1) := by decide +kernel
theorem dX6_digest_4 : decode cX6_digest 4 = .ok (.invokevirtual 146, 3) := by decide +kernel
theorem dX6_digest_7 : decode cX6_digest 7 = .ok (.pop, 1) := by decide +kernel
theorem dX6_digest_8 : decode cX6_digest 8 = .ok (.ldc2_w 248, 3) := by decide +kernel
theorem dX6_digest_11 : decode cX6_digest 11 = .ok (.aload_n 0, 1) := by decide +kernel
theorem dX6_digest_12 : decode cX6_digest 12 = .ok (.getfield 207, 3) := by decide +kernel
theorem dX6_digest_15 : decode cX6_digest 15 = .ok (.i2l, 1) := by decide +kernel
theorem dX6_digest_16 : decode cX6_digest 16 = .ok (.ladd, 1) := by decide +kernel
theorem dX6_digest_17 : decode cX6_digest 17 = .ok (.lstore_n 1, 1) := by decide +kernel
theorem dX6_digest_18 : decode cX6_digest 18 = .ok (.iconst 0, 1) := by decide +kernel
theorem dX6_digest_19 : decode cX6_digest 19 = .ok (.istore_n 3, 1) := by decide +kernel
theorem dX6_digest_20 : decode cX6_digest 20 = .ok (.iload_n 3, 1) := by decide +kernel
theorem dX6_digest_21 : decode cX6_digest 21 = .ok (.bipush 11, 2) := by decide +kernel
theorem dX6_digest_23 : decode cX6_digest 23 = .ok (.if_icmp .ge 22, 3) := by decide +kernel
theorem dX6_digest_26 : decode cX6_digest 26 = .ok (.ldc2_w 250, 3) := by decide +kernel
theorem dX6_digest_29 : decode cX6_digest 29 = .ok (.lload_n 1, 1) := by decide +kernel
theorem dX6_digest_30 : decode cX6_digest 30 = .ok (.lmul, 1) := by decide +kernel
theorem dX6_digest_31 : decode cX6_digest 31 = .ok (.aload_n 0, 1) := by decide +kernel
theorem dX6_digest_32 : decode cX6_digest 32 = .ok (.iload_n 3, 1) := by decide +kernel
theorem dX6_digest_33 : decode cX6_digest 33 = .ok (.invokevirtual 185, 3) := by decide +kernel
theorem dX6_digest_36 : decode cX6_digest 36 = .ok (.i2l, 1) := by decide +kernel
theorem dX6_digest_37 : decode cX6_digest 37 = .ok (.ladd, 1) := by decide +kernel
theorem dX6_digest_38 : decode cX6_digest 38 = .ok (.lstore_n 1, 1) := by decide +kernel
theorem dX6_digest_39 : decode cX6_digest 39 = .ok (.iinc 3 1, 3) := by decide +kernel
theorem dX6_digest_42 : decode cX6_digest 42 = .ok (.goto (-22), 3) := by decide +kernel
theorem dX6_digest_45 : decode cX6_digest 45 = .ok (.iconst 0, 1) := by decide +kernel
theorem dX6_digest_46 : decode cX6_digest 46 = .ok (.istore_n 3, 1) := by decide +kernel
theorem dX6_digest_47 : decode cX6_digest 47 = .ok (.iload_n 3, 1) := by decide +kernel
theorem dX6_digest_48 : decode cX6_digest 48 = .ok (.bipush 8, 2) := by decide +kernel
theorem dX6_digest_50 : decode cX6_digest 50 = .ok (.aload_n 0, 1) := by decide +kernel
theorem dX6_digest_51 : decode cX6_digest 51 = .ok (.getfield 7, 3) := by decide +kernel
theorem dX6_digest_54 : decode cX6_digest 54 = .ok (.iconst 1, 1) := by decide +kernel
theorem dX6_digest_55 : decode cX6_digest 55 = .ok (.iaload, 1) := by decide +kernel
theorem dX6_digest_56 : decode cX6_digest 56 = .ok (.imul, 1) := by decide +kernel
theorem dX6_digest_57 : decode cX6_digest 57 = .ok (.if_icmp .ge 25, 3) := by decide +kernel
theorem dX6_digest_60 : decode cX6_digest 60 = .ok (.ldc2_w 250, 3) := by decide +kernel
theorem dX6_digest_63 : decode cX6_digest 63 = .ok (.lload_n 1, 1) := by decide +kernel
theorem dX6_digest_64 : decode cX6_digest 64 = .ok (.lmul, 1) := by decide +kernel
theorem dX6_digest_65 : decode cX6_digest 65 = .ok (.aload_n 0, 1) := by decide +kernel
theorem dX6_digest_66 : decode cX6_digest 66 = .ok (.getfield 7, 3) := by decide +kernel
theorem dX6_digest_69 : decode cX6_digest 69 = .ok (.iconst 5, 1) := by decide +kernel
theorem dX6_digest_70 : decode cX6_digest 70 = .ok (.iload_n 3, 1) := by decide +kernel
theorem dX6_digest_71 : decode cX6_digest 71 = .ok (.iadd, 1) := by decide +kernel
theorem dX6_digest_72 : decode cX6_digest 72 = .ok (.iaload, 1) := by decide +kernel
theorem dX6_digest_73 : decode cX6_digest 73 = .ok (.i2l, 1) := by decide +kernel
theorem dX6_digest_74 : decode cX6_digest 74 = .ok (.ladd, 1) := by decide +kernel
theorem dX6_digest_75 : decode cX6_digest 75 = .ok (.lstore_n 1, 1) := by decide +kernel
theorem dX6_digest_76 : decode cX6_digest 76 = .ok (.iinc 3 1, 3) := by decide +kernel
theorem dX6_digest_79 : decode cX6_digest 79 = .ok (.goto (-32), 3) := by decide +kernel
theorem dX6_digest_82 : decode cX6_digest 82 = .ok (.iconst 0, 1) := by decide +kernel
theorem dX6_digest_83 : decode cX6_digest 83 = .ok (.istore_n 3, 1) := by decide +kernel
theorem dX6_digest_84 : decode cX6_digest 84 = .ok (.iload_n 3, 1) := by decide +kernel
theorem dX6_digest_85 : decode cX6_digest 85 = .ok (.aload_n 0, 1) := by decide +kernel
theorem dX6_digest_86 : decode cX6_digest 86 = .ok (.getfield 7, 3) := by decide +kernel
theorem dX6_digest_89 : decode cX6_digest 89 = .ok (.iconst 0, 1) := by decide +kernel
theorem dX6_digest_90 : decode cX6_digest 90 = .ok (.iaload, 1) := by decide +kernel
theorem dX6_digest_91 : decode cX6_digest 91 = .ok (.if_icmp .ge 57, 3) := by decide +kernel
theorem dX6_digest_94 : decode cX6_digest 94 = .ok (.ldc2_w 250, 3) := by decide +kernel
theorem dX6_digest_97 : decode cX6_digest 97 = .ok (.lload_n 1, 1) := by decide +kernel
theorem dX6_digest_98 : decode cX6_digest 98 = .ok (.lmul, 1) := by decide +kernel
theorem dX6_digest_99 : decode cX6_digest 99 = .ok (.aload_n 0, 1) := by decide +kernel
theorem dX6_digest_100 : decode cX6_digest 100 = .ok (.iload_n 3, 1) := by decide +kernel
theorem dX6_digest_101 : decode cX6_digest 101 = .ok (.invokevirtual 179, 3) := by decide +kernel
theorem dX6_digest_104 : decode cX6_digest 104 = .ok (.i2l, 1) := by decide +kernel
theorem dX6_digest_105 : decode cX6_digest 105 = .ok (.ladd, 1) := by decide +kernel
theorem dX6_digest_106 : decode cX6_digest 106 = .ok (.lstore_n 1, 1) := by decide +kernel
theorem dX6_digest_107 : decode cX6_digest 107 = .ok (.iconst 0, 1) := by decide +kernel
theorem dX6_digest_108 : decode cX6_digest 108 = .ok (.istore 4, 2) := by decide +kernel
theorem dX6_digest_110 : decode cX6_digest 110 = .ok (.iload 4, 2) := by decide +kernel
theorem dX6_digest_112 : decode cX6_digest 112 = .ok (.aload_n 0, 1) := by decide +kernel
theorem dX6_digest_113 : decode cX6_digest 113 = .ok (.getfield 7, 3) := by decide +kernel
theorem dX6_digest_116 : decode cX6_digest 116 = .ok (.iconst 0, 1) := by decide +kernel
theorem dX6_digest_117 : decode cX6_digest 117 = .ok (.iaload, 1) := by decide +kernel
theorem dX6_digest_118 : decode cX6_digest 118 = .ok (.if_icmp .ge 24, 3) := by decide +kernel
theorem dX6_digest_121 : decode cX6_digest 121 = .ok (.ldc2_w 250, 3) := by decide +kernel
theorem dX6_digest_124 : decode cX6_digest 124 = .ok (.lload_n 1, 1) := by decide +kernel
theorem dX6_digest_125 : decode cX6_digest 125 = .ok (.lmul, 1) := by decide +kernel
theorem dX6_digest_126 : decode cX6_digest 126 = .ok (.aload_n 0, 1) := by decide +kernel
theorem dX6_digest_127 : decode cX6_digest 127 = .ok (.iload_n 3, 1) := by decide +kernel
theorem dX6_digest_128 : decode cX6_digest 128 = .ok (.iload 4, 2) := by decide +kernel
theorem dX6_digest_130 : decode cX6_digest 130 = .ok (.invokevirtual 176, 3) := by decide +kernel
theorem dX6_digest_133 : decode cX6_digest 133 = .ok (.i2l, 1) := by decide +kernel
theorem dX6_digest_134 : decode cX6_digest 134 = .ok (.ladd, 1) := by decide +kernel
theorem dX6_digest_135 : decode cX6_digest 135 = .ok (.lstore_n 1, 1) := by decide +kernel
theorem dX6_digest_136 : decode cX6_digest 136 = .ok (.iinc 4 1, 3) := by decide +kernel
theorem dX6_digest_139 : decode cX6_digest 139 = .ok (.goto (-29), 3) := by decide +kernel
theorem dX6_digest_142 : decode cX6_digest 142 = .ok (.iinc 3 1, 3) := by decide +kernel
theorem dX6_digest_145 : decode cX6_digest 145 = .ok (.goto (-61), 3) := by decide +kernel
theorem dX6_digest_148 : decode cX6_digest 148 = .ok (.aload_n 0, 1) := by decide +kernel
theorem dX6_digest_149 : decode cX6_digest 149 = .ok (.aload_n 0, 1) := by decide +kernel
theorem dX6_digest_150 : decode cX6_digest 150 = .ok (.getfield 7, 3) := by decide +kernel
theorem dX6_digest_153 : decode cX6_digest 153 = .ok (.invokevirtual 138, 3) := by decide +kernel
theorem dX6_digest_156 : decode cX6_digest 156 = .ok (.pop, 1) := by decide +kernel
theorem dX6_digest_157 : decode cX6_digest 157 = .ok (.ldc2_w 250, 3) := by decide +kernel
theorem dX6_digest_160 : decode cX6_digest 160 = .ok (.lload_n 1, 1) := by decide +kernel
theorem dX6_digest_161 : decode cX6_digest 161 = .ok (.lmul, 1) := by decide +kernel
theorem dX6_digest_162 : decode cX6_digest 162 = .ok (.aload_n 0, 1) := by decide +kernel
theorem dX6_digest_163 : decode cX6_digest 163 = .ok (.getfield 121, 3) := by decide +kernel
theorem dX6_digest_166 : decode cX6_digest 166 = .ok (.i2l, 1) := by decide +kernel
theorem dX6_digest_167 : decode cX6_digest 167 = .ok (.ladd, 1) := by decide +kernel
theorem dX6_digest_168 : decode cX6_digest 168 = .ok (.lstore_n 1, 1) := by decide +kernel
theorem dX6_digest_169 : decode cX6_digest 169 = .ok (.ldc2_w 250, 3) := by decide +kernel
theorem dX6_digest_172 : decode cX6_digest 172 = .ok (.lload_n 1, 1) := by decide +kernel
theorem dX6_digest_173 : decode cX6_digest 173 = .ok (.lmul, 1) := by decide +kernel
theorem dX6_digest_174 : decode cX6_digest 174 = .ok (.aload_n 0, 1) := by decide +kernel
theorem dX6_digest_175 : decode cX6_digest 175 = .ok (.invokevirtual 204, 3) := by decide +kernel
theorem dX6_digest_178 : decode cX6_digest 178 = .ok (.i2l, 1) := by decide +kernel
theorem dX6_digest_179 : decode cX6_digest 179 = .ok (.ladd, 1) := by decide +kernel
theorem dX6_digest_180 : decode cX6_digest 180 = .ok (.lstore_n 1, 1) := by decide +kernel
theorem dX6_digest_181 : decode cX6_digest 181 = .ok (.ldc2_w 250, 3) := by decide +kernel
theorem dX6_digest_184 : decode cX6_digest 184 = .ok (.lload_n 1, 1) := by decide +kernel
theorem dX6_digest_185 : decode cX6_digest 185 = .ok (.lmul, 1) := by decide +kernel
theorem dX6_digest_186 : decode cX6_digest 186 = .ok (.aload_n 0, 1) := by decide +kernel
theorem dX6_digest_187 : decode cX6_digest 187 = .ok (.getfield 72, 3) := by decide +kernel
theorem dX6_digest_190 : decode cX6_digest 190 = .ok (.i2l, 1) := by decide +kernel
theorem dX6_digest_191 : decode cX6_digest 191 = .ok (.ladd, 1) := by decide +kernel
theorem dX6_digest_192 : decode cX6_digest 192 = .ok (.lreturn, 1) := by decide +kernel
