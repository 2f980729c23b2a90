/-! the words, by their places in the tables -/
def GW : List Cond := lw_tbl.filter goodWord
theorem gw_of {w : Cond} (h : w ∈ lw_tbl) (g : goodWord w = true) : w ∈ GW := List.mem_filter.mpr ⟨h, g⟩
theorem tm10 {w : Cond} (h : w ∈ tables_1_1) : w ∈ lw_tbl := List.mem_append_right _ (List.mem_append_left _ h)
theorem tm1 {w : Cond} (h : w ∈ tables_1_1) (g : goodWord w = true) : w ∈ GW := gw_of (tm10 h) g
theorem tm20 {w : Cond} (h : w ∈ tables_1_2) : w ∈ lw_tbl := List.mem_append_right _ (List.mem_append_right _ (List.mem_append_left _ h))
theorem tm2 {w : Cond} (h : w ∈ tables_1_2) (g : goodWord w = true) : w ∈ GW := gw_of (tm20 h) g
theorem tm30 {w : Cond} (h : w ∈ tables_1_3) : w ∈ lw_tbl := List.mem_append_right _ (List.mem_append_right _ (List.mem_append_right _ h))
theorem tm3 {w : Cond} (h : w ∈ tables_1_3) (g : goodWord w = true) : w ∈ GW := gw_of (tm30 h) g
theorem tmP {w : Cond} (h : w ∈ k2_sels lw_privs) (g : goodWord w = true) : w ∈ GW := gw_of (List.mem_append_left _ h) g
theorem wIn_L : Cond.initialized RL ∈ GW := tm1 (List.mem_of_getElem? (i := 0) rfl) rfl
theorem wIn_X5 : Cond.initialized RX5 ∈ GW := tm1 (List.mem_of_getElem? (i := 1) rfl) rfl
theorem wIn_X0 : Cond.initialized RX0 ∈ GW := tm1 (List.mem_of_getElem? (i := 2) rfl) rfl
theorem wIn_X4 : Cond.initialized RX4 ∈ GW := tm1 (List.mem_of_getElem? (i := 3) rfl) rfl
theorem wIn_X1 : Cond.initialized RX1 ∈ GW := tm1 (List.mem_of_getElem? (i := 4) rfl) rfl
theorem wIn_X3 : Cond.initialized RX3 ∈ GW := tm1 (List.mem_of_getElem? (i := 5) rfl) rfl
theorem wIn_X2 : Cond.initialized RX2 ∈ GW := tm1 (List.mem_of_getElem? (i := 6) rfl) rfl
theorem wIn_J9 : Cond.initialized RJ9 ∈ GW := tm1 (List.mem_of_getElem? (i := 7) rfl) rfl
theorem wIn_Throwable : Cond.initialized "java/lang/Throwable" ∈ GW := tm1 (List.mem_of_getElem? (i := 8) rfl) rfl
theorem wIn_Exception : Cond.initialized "java/lang/Exception" ∈ GW := tm1 (List.mem_of_getElem? (i := 9) rfl) rfl
theorem wIn_RuntimeException : Cond.initialized "java/lang/RuntimeException" ∈ GW := tm1 (List.mem_of_getElem? (i := 10) rfl) rfl
theorem wIn_IllegalArgumentException : Cond.initialized "java/lang/IllegalArgumentException" ∈ GW := tm1 (List.mem_of_getElem? (i := 11) rfl) rfl
theorem wIn_IndexOutOfBoundsException : Cond.initialized "java/lang/IndexOutOfBoundsException" ∈ GW := tm1 (List.mem_of_getElem? (i := 12) rfl) rfl
theorem wIn_J10 : Cond.initialized RJ10 ∈ GW := tm1 (List.mem_of_getElem? (i := 13) rfl) rfl
theorem wIn_IllegalStateException : Cond.initialized "java/lang/IllegalStateException" ∈ GW := tm1 (List.mem_of_getElem? (i := 14) rfl) rfl
theorem wK_L_9 : Cond.classLink RL 9 RX5 ∈ GW := tm1 (List.mem_of_getElem? (i := 15) rfl) rfl
theorem wIb_X5 : Cond.instantiable RX5 7 ∈ GW := tm1 (List.mem_of_getElem? (i := 16) rfl) rfl
theorem wL_L_107 : Cond.methodLink RL 107 yX5_init ∈ GW := tm1 (List.mem_of_getElem? (i := 17) rfl) rfl
theorem wI_X5_init : Cond.instanceMethod yX5_init ∈ GW := tm1 (List.mem_of_getElem? (i := 18) rfl) rfl
theorem wC_X5_init : Cond.code yX5_init cX5_init 1 none ∈ GW := tm1 (List.mem_of_getElem? (i := 19) rfl) rfl
theorem wL_X5_3 : Cond.methodLink RX5 3 ⟨"java/lang/Object", "<init>", "()V"⟩ ∈ GW := tm1 (List.mem_of_getElem? (i := 20) rfl) rfl
theorem wI_Object__init___V : Cond.instanceMethod ⟨"java/lang/Object", "<init>", "()V"⟩ ∈ GW := tm1 (List.mem_of_getElem? (i := 21) rfl) rfl
theorem wC_Object__init___V : Cond.code ⟨"java/lang/Object", "<init>", "()V"⟩ object_method_1_code 1 none ∈ GW := tm1 (List.mem_of_getElem? (i := 22) rfl) rfl
theorem wK_X5_9 : Cond.classLink RX5 9 RX0 ∈ GW := tm1 (List.mem_of_getElem? (i := 23) rfl) rfl
theorem wIb_X0 : Cond.instantiable RX0 13 ∈ GW := tm1 (List.mem_of_getElem? (i := 24) rfl) rfl
theorem wLN_X5_11 : Cond.methodLinkNest RX5 11 yX0_init RX5 ∈ lw_tbl := tm10 (List.mem_of_getElem? (i := 25) rfl)
theorem wI_X0_init : Cond.instanceMethod yX0_init ∈ GW := tm1 (List.mem_of_getElem? (i := 26) rfl) rfl
theorem wC_X0_init : Cond.code yX0_init cX0_init 1 none ∈ GW := tm1 (List.mem_of_getElem? (i := 27) rfl) rfl
theorem wL_X0_3 : Cond.methodLink RX0 3 ⟨"java/lang/Object", "<init>", "()V"⟩ ∈ GW := tm1 (List.mem_of_getElem? (i := 28) rfl) rfl
theorem wF_X0_9 : Cond.fieldLink RX0 9 "PledgeRings$Book" "parties" "I" ∈ GW := tm1 (List.mem_of_getElem? (i := 29) rfl) rfl
theorem wFN_X5_177 : Cond.fieldLinkNest RX5 177 "PledgeRings$Book" "parties" "I" RX5 ∈ lw_tbl := tm10 (List.mem_of_getElem? (i := 30) rfl)
theorem wF_X0_41 : Cond.fieldLink RX0 41 "PledgeRings$Book" "count" "I" ∈ GW := tm1 (List.mem_of_getElem? (i := 31) rfl) rfl
theorem wFN_X5_54 : Cond.fieldLinkNest RX5 54 "PledgeRings$Book" "count" "I" RX5 ∈ lw_tbl := tm10 (List.mem_of_getElem? (i := 32) rfl)
theorem wFN_X1_21 : Cond.fieldLinkNest RX1 21 "PledgeRings$Book" "count" "I" RX5 ∈ lw_tbl := tm10 (List.mem_of_getElem? (i := 33) rfl)
theorem wFN_X3_44 : Cond.fieldLinkNest RX3 44 "PledgeRings$Book" "count" "I" RX5 ∈ lw_tbl := tm10 (List.mem_of_getElem? (i := 34) rfl)
theorem wF_X0_44 : Cond.fieldLink RX0 44 "PledgeRings$Book" "payments" "I" ∈ GW := tm1 (List.mem_of_getElem? (i := 35) rfl) rfl
theorem wFN_X5_192 : Cond.fieldLinkNest RX5 192 "PledgeRings$Book" "payments" "I" RX5 ∈ lw_tbl := tm10 (List.mem_of_getElem? (i := 36) rfl)
theorem wF_X0_47 : Cond.fieldLink RX0 47 "PledgeRings$Book" "releases" "I" ∈ GW := tm1 (List.mem_of_getElem? (i := 37) rfl) rfl
theorem wFN_X5_195 : Cond.fieldLinkNest RX5 195 "PledgeRings$Book" "releases" "I" RX5 ∈ lw_tbl := tm10 (List.mem_of_getElem? (i := 38) rfl)
theorem wF_X0_50 : Cond.fieldLink RX0 50 "PledgeRings$Book" "discharges" "I" ∈ GW := tm1 (List.mem_of_getElem? (i := 39) rfl) rfl
theorem wFN_X4_79 : Cond.fieldLinkNest RX4 79 "PledgeRings$Book" "discharges" "I" RX5 ∈ lw_tbl := tm10 (List.mem_of_getElem? (i := 40) rfl)
theorem wFN_X5_198 : Cond.fieldLinkNest RX5 198 "PledgeRings$Book" "discharges" "I" RX5 ∈ lw_tbl := tm10 (List.mem_of_getElem? (i := 41) rfl)
theorem wF_X0_15 : Cond.fieldLink RX0 15 "PledgeRings$Book" "from" "[I" ∈ GW := tm1 (List.mem_of_getElem? (i := 42) rfl) rfl
theorem wFN_X3_54 : Cond.fieldLinkNest RX3 54 "PledgeRings$Book" "from" "[I" RX5 ∈ lw_tbl := tm10 (List.mem_of_getElem? (i := 43) rfl)
theorem wFN_X5_145 : Cond.fieldLinkNest RX5 145 "PledgeRings$Book" "from" "[I" RX5 ∈ lw_tbl := tm10 (List.mem_of_getElem? (i := 44) rfl)
theorem wF_X0_19 : Cond.fieldLink RX0 19 "PledgeRings$Book" "to" "[I" ∈ GW := tm1 (List.mem_of_getElem? (i := 45) rfl) rfl
theorem wFN_X3_64 : Cond.fieldLinkNest RX3 64 "PledgeRings$Book" "to" "[I" RX5 ∈ lw_tbl := tm10 (List.mem_of_getElem? (i := 46) rfl)
theorem wFN_X5_148 : Cond.fieldLinkNest RX5 148 "PledgeRings$Book" "to" "[I" RX5 ∈ lw_tbl := tm10 (List.mem_of_getElem? (i := 47) rfl)
theorem wF_X0_22 : Cond.fieldLink RX0 22 "PledgeRings$Book" "amount" "[I" ∈ GW := tm1 (List.mem_of_getElem? (i := 48) rfl) rfl
theorem wFN_X1_38 : Cond.fieldLinkNest RX1 38 "PledgeRings$Book" "amount" "[I" RX5 ∈ lw_tbl := tm10 (List.mem_of_getElem? (i := 49) rfl)
theorem wFN_X3_57 : Cond.fieldLinkNest RX3 57 "PledgeRings$Book" "amount" "[I" RX5 ∈ lw_tbl := tm10 (List.mem_of_getElem? (i := 50) rfl)
theorem wFN_X5_97 : Cond.fieldLinkNest RX5 97 "PledgeRings$Book" "amount" "[I" RX5 ∈ lw_tbl := tm10 (List.mem_of_getElem? (i := 51) rfl)
theorem wF_X0_25 : Cond.fieldLink RX0 25 "PledgeRings$Book" "rate" "[I" ∈ GW := tm1 (List.mem_of_getElem? (i := 52) rfl) rfl
theorem wFN_X1_27 : Cond.fieldLinkNest RX1 27 "PledgeRings$Book" "rate" "[I" RX5 ∈ lw_tbl := tm10 (List.mem_of_getElem? (i := 53) rfl)
theorem wFN_X3_75 : Cond.fieldLinkNest RX3 75 "PledgeRings$Book" "rate" "[I" RX5 ∈ lw_tbl := tm10 (List.mem_of_getElem? (i := 54) rfl)
theorem wFN_X5_151 : Cond.fieldLinkNest RX5 151 "PledgeRings$Book" "rate" "[I" RX5 ∈ lw_tbl := tm10 (List.mem_of_getElem? (i := 55) rfl)
theorem wF_X0_28 : Cond.fieldLink RX0 28 "PledgeRings$Book" "amountAtFirst" "[I" ∈ GW := tm1 (List.mem_of_getElem? (i := 56) rfl) rfl
theorem wFN_X5_154 : Cond.fieldLinkNest RX5 154 "PledgeRings$Book" "amountAtFirst" "[I" RX5 ∈ lw_tbl := tm10 (List.mem_of_getElem? (i := 57) rfl)
theorem wF_X0_31 : Cond.fieldLink RX0 31 "PledgeRings$Book" "paid" "[I" ∈ GW := tm1 (List.mem_of_getElem? (i := 58) rfl) rfl
theorem wFN_X5_157 : Cond.fieldLinkNest RX5 157 "PledgeRings$Book" "paid" "[I" RX5 ∈ lw_tbl := tm10 (List.mem_of_getElem? (i := 59) rfl)
theorem wF_X0_34 : Cond.fieldLink RX0 34 "PledgeRings$Book" "released" "[I" ∈ GW := tm1 (List.mem_of_getElem? (i := 60) rfl) rfl
theorem wFN_X5_160 : Cond.fieldLinkNest RX5 160 "PledgeRings$Book" "released" "[I" RX5 ∈ lw_tbl := tm10 (List.mem_of_getElem? (i := 61) rfl)
theorem wF_X0_37 : Cond.fieldLink RX0 37 "PledgeRings$Book" "disputed" "[Z" ∈ GW := tm1 (List.mem_of_getElem? (i := 62) rfl) rfl
theorem wFN_X5_116 : Cond.fieldLinkNest RX5 116 "PledgeRings$Book" "disputed" "[Z" RX5 ∈ lw_tbl := tm10 (List.mem_of_getElem? (i := 63) rfl)
theorem wFN_X3_105 : Cond.fieldLinkNest RX3 105 "PledgeRings$Book" "disputed" "[Z" RX5 ∈ lw_tbl := tm10 (List.mem_of_getElem? (i := 64) rfl)
theorem wY_X0_parties : Cond.lays RX0 "PledgeRings$Book" "parties" "I" ∈ GW := tm1 (List.mem_of_getElem? (i := 65) rfl) rfl
theorem wY_X0_count : Cond.lays RX0 "PledgeRings$Book" "count" "I" ∈ GW := tm1 (List.mem_of_getElem? (i := 67) rfl) rfl
theorem wY_X0_payments : Cond.lays RX0 "PledgeRings$Book" "payments" "I" ∈ GW := tm1 (List.mem_of_getElem? (i := 69) rfl) rfl
theorem wY_X0_releases : Cond.lays RX0 "PledgeRings$Book" "releases" "I" ∈ GW := tm1 (List.mem_of_getElem? (i := 71) rfl) rfl
theorem wY_X0_discharges : Cond.lays RX0 "PledgeRings$Book" "discharges" "I" ∈ GW := tm1 (List.mem_of_getElem? (i := 73) rfl) rfl
theorem wY_X0_from : Cond.laysFinal RX0 "PledgeRings$Book" "from" "[I" ∈ GW := tm1 (List.mem_of_getElem? (i := 75) rfl) rfl
theorem wY_X0_to : Cond.laysFinal RX0 "PledgeRings$Book" "to" "[I" ∈ GW := tm1 (List.mem_of_getElem? (i := 77) rfl) rfl
theorem wY_X0_amount : Cond.laysFinal RX0 "PledgeRings$Book" "amount" "[I" ∈ GW := tm1 (List.mem_of_getElem? (i := 79) rfl) rfl
theorem wY_X0_rate : Cond.laysFinal RX0 "PledgeRings$Book" "rate" "[I" ∈ GW := tm1 (List.mem_of_getElem? (i := 81) rfl) rfl
theorem wY_X0_amountAtFirst : Cond.laysFinal RX0 "PledgeRings$Book" "amountAtFirst" "[I" ∈ GW := tm1 (List.mem_of_getElem? (i := 83) rfl) rfl
theorem wY_X0_paid : Cond.laysFinal RX0 "PledgeRings$Book" "paid" "[I" ∈ GW := tm1 (List.mem_of_getElem? (i := 85) rfl) rfl
theorem wY_X0_released : Cond.laysFinal RX0 "PledgeRings$Book" "released" "[I" ∈ GW := tm1 (List.mem_of_getElem? (i := 87) rfl) rfl
theorem wY_X0_disputed : Cond.laysFinal RX0 "PledgeRings$Book" "disputed" "[Z" ∈ GW := tm1 (List.mem_of_getElem? (i := 89) rfl) rfl
theorem wA__int : Cond.arrayClass .int ∈ GW := tm1 (List.mem_of_getElem? (i := 92) rfl) rfl
theorem wA__boolean : Cond.arrayClass .boolean ∈ GW := tm1 (List.mem_of_getElem? (i := 93) rfl) rfl
theorem wK_X5_19 : Cond.classLink RX5 19 RX4 ∈ GW := tm1 (List.mem_of_getElem? (i := 94) rfl) rfl
theorem wIb_X4 : Cond.instantiable RX4 4 ∈ GW := tm1 (List.mem_of_getElem? (i := 95) rfl) rfl
theorem wLN_X5_21 : Cond.methodLinkNest RX5 21 yX4_init RX5 ∈ lw_tbl := tm10 (List.mem_of_getElem? (i := 96) rfl)
theorem wI_X4_init : Cond.instanceMethod yX4_init ∈ GW := tm1 (List.mem_of_getElem? (i := 97) rfl) rfl
theorem wC_X4_init : Cond.code yX4_init cX4_init 1 none ∈ GW := tm1 (List.mem_of_getElem? (i := 98) rfl) rfl
theorem wL_X4_5 : Cond.methodLink RX4 5 ⟨"java/lang/Object", "<init>", "()V"⟩ ∈ GW := tm1 (List.mem_of_getElem? (i := 99) rfl) rfl
theorem wK_X4_11 : Cond.classLink RX4 11 RX1 ∈ GW := tm1 (List.mem_of_getElem? (i := 100) rfl) rfl
theorem wIb_X1 : Cond.instantiable RX1 3 ∈ GW := tm1 (List.mem_of_getElem? (i := 101) rfl) rfl
theorem wLN_X4_13 : Cond.methodLinkNest RX4 13 yX1_init RX5 ∈ lw_tbl := tm10 (List.mem_of_getElem? (i := 102) rfl)
theorem wI_X1_init : Cond.instanceMethod yX1_init ∈ GW := tm1 (List.mem_of_getElem? (i := 103) rfl) rfl
theorem wC_X1_init : Cond.code yX1_init cX1_init 1 none ∈ GW := tm1 (List.mem_of_getElem? (i := 104) rfl) rfl
theorem wL_X1_3 : Cond.methodLink RX1 3 ⟨"java/lang/Object", "<init>", "()V"⟩ ∈ GW := tm1 (List.mem_of_getElem? (i := 105) rfl) rfl
theorem wF_X1_9 : Cond.fieldLink RX1 9 "PledgeRings$Debts" "sum" "[I" ∈ GW := tm1 (List.mem_of_getElem? (i := 106) rfl) rfl
theorem wF_X1_15 : Cond.fieldLink RX1 15 "PledgeRings$Debts" "firstOf" "[I" ∈ GW := tm1 (List.mem_of_getElem? (i := 107) rfl) rfl
theorem wF_X1_18 : Cond.fieldLink RX1 18 "PledgeRings$Debts" "nextOf" "[I" ∈ GW := tm1 (List.mem_of_getElem? (i := 108) rfl) rfl
theorem wY_X1_sum : Cond.laysFinal RX1 "PledgeRings$Debts" "sum" "[I" ∈ GW := tm1 (List.mem_of_getElem? (i := 109) rfl) rfl
theorem wY_X1_firstOf : Cond.laysFinal RX1 "PledgeRings$Debts" "firstOf" "[I" ∈ GW := tm1 (List.mem_of_getElem? (i := 111) rfl) rfl
theorem wY_X1_nextOf : Cond.laysFinal RX1 "PledgeRings$Debts" "nextOf" "[I" ∈ GW := tm1 (List.mem_of_getElem? (i := 113) rfl) rfl
theorem wF_X4_14 : Cond.fieldLink RX4 14 "PledgeRings$Rings" "debts" "LPledgeRings$Debts;" ∈ GW := tm1 (List.mem_of_getElem? (i := 116) rfl) rfl
theorem wF_X4_18 : Cond.fieldLink RX4 18 "PledgeRings$Rings" "rows" "[I" ∈ GW := tm1 (List.mem_of_getElem? (i := 117) rfl) rfl
theorem wF_X4_22 : Cond.fieldLink RX4 22 "PledgeRings$Rings" "through" "[I" ∈ GW := tm1 (List.mem_of_getElem? (i := 118) rfl) rfl
theorem wF_X4_29 : Cond.fieldLink RX4 29 "PledgeRings$Rings" "size" "I" ∈ GW := tm1 (List.mem_of_getElem? (i := 119) rfl) rfl
theorem wFN_X5_280 : Cond.fieldLinkNest RX5 280 "PledgeRings$Rings" "size" "I" RX5 ∈ lw_tbl := tm10 (List.mem_of_getElem? (i := 120) rfl)
theorem wY_X4_debts : Cond.laysFinal RX4 "PledgeRings$Rings" "debts" "LPledgeRings$Debts;" ∈ GW := tm1 (List.mem_of_getElem? (i := 121) rfl) rfl
theorem wY_X4_rows : Cond.laysFinal RX4 "PledgeRings$Rings" "rows" "[I" ∈ GW := tm1 (List.mem_of_getElem? (i := 123) rfl) rfl
theorem wY_X4_through : Cond.laysFinal RX4 "PledgeRings$Rings" "through" "[I" ∈ GW := tm1 (List.mem_of_getElem? (i := 125) rfl) rfl
theorem wY_X4_size : Cond.lays RX4 "PledgeRings$Rings" "size" "I" ∈ GW := tm1 (List.mem_of_getElem? (i := 127) rfl) rfl
theorem wK_X5_26 : Cond.classLink RX5 26 RX3 ∈ GW := tm1 (List.mem_of_getElem? (i := 130) rfl) rfl
theorem wIb_X3 : Cond.instantiable RX3 4 ∈ GW := tm1 (List.mem_of_getElem? (i := 131) rfl) rfl
theorem wLN_X5_28 : Cond.methodLinkNest RX5 28 yX3_init RX5 ∈ lw_tbl := tm10 (List.mem_of_getElem? (i := 132) rfl)
theorem wI_X3_init : Cond.instanceMethod yX3_init ∈ GW := tm1 (List.mem_of_getElem? (i := 133) rfl) rfl
theorem wC_X3_init : Cond.code yX3_init cX3_init 1 none ∈ GW := tm1 (List.mem_of_getElem? (i := 134) rfl) rfl
theorem wL_X3_3 : Cond.methodLink RX3 3 ⟨"java/lang/Object", "<init>", "()V"⟩ ∈ GW := tm1 (List.mem_of_getElem? (i := 135) rfl) rfl
theorem wF_X3_9 : Cond.fieldLink RX3 9 "PledgeRings$Remainder" "stays" "[I" ∈ GW := tm1 (List.mem_of_getElem? (i := 136) rfl) rfl
theorem wF_X3_15 : Cond.fieldLink RX3 15 "PledgeRings$Remainder" "excess" "[I" ∈ GW := tm1 (List.mem_of_getElem? (i := 137) rfl) rfl
theorem wF_X3_18 : Cond.fieldLink RX3 18 "PledgeRings$Remainder" "distance" "[I" ∈ GW := tm1 (List.mem_of_getElem? (i := 138) rfl) rfl
theorem wF_X3_21 : Cond.fieldLink RX3 21 "PledgeRings$Remainder" "reachedBy" "[I" ∈ GW := tm1 (List.mem_of_getElem? (i := 139) rfl) rfl
theorem wY_X3_stays : Cond.laysFinal RX3 "PledgeRings$Remainder" "stays" "[I" ∈ GW := tm1 (List.mem_of_getElem? (i := 140) rfl) rfl
theorem wY_X3_excess : Cond.laysFinal RX3 "PledgeRings$Remainder" "excess" "[I" ∈ GW := tm1 (List.mem_of_getElem? (i := 142) rfl) rfl
theorem wY_X3_distance : Cond.laysFinal RX3 "PledgeRings$Remainder" "distance" "[I" ∈ GW := tm1 (List.mem_of_getElem? (i := 144) rfl) rfl
theorem wY_X3_reachedBy : Cond.laysFinal RX3 "PledgeRings$Remainder" "reachedBy" "[I" ∈ GW := tm1 (List.mem_of_getElem? (i := 146) rfl) rfl
theorem wK_X5_33 : Cond.classLink RX5 33 RX2 ∈ GW := tm1 (List.mem_of_getElem? (i := 149) rfl) rfl
theorem wIb_X2 : Cond.instantiable RX2 10 ∈ GW := tm1 (List.mem_of_getElem? (i := 150) rfl) rfl
theorem wLN_X5_35 : Cond.methodLinkNest RX5 35 yX2_init RX5 ∈ lw_tbl := tm10 (List.mem_of_getElem? (i := 151) rfl)
theorem wI_X2_init : Cond.instanceMethod yX2_init ∈ GW := tm1 (List.mem_of_getElem? (i := 152) rfl) rfl
theorem wC_X2_init : Cond.code yX2_init cX2_init 1 none ∈ GW := tm1 (List.mem_of_getElem? (i := 153) rfl) rfl
theorem wL_X2_3 : Cond.methodLink RX2 3 ⟨"java/lang/Object", "<init>", "()V"⟩ ∈ GW := tm1 (List.mem_of_getElem? (i := 154) rfl) rfl
theorem wF_X2_9 : Cond.fieldLink RX2 9 "PledgeRings$Orders" "bytes" "[I" ∈ GW := tm1 (List.mem_of_getElem? (i := 155) rfl) rfl
theorem wFN_X5_244 : Cond.fieldLinkNest RX5 244 "PledgeRings$Orders" "length" "I" RX5 ∈ lw_tbl := tm10 (List.mem_of_getElem? (i := 156) rfl)
theorem wY_X2_bytes : Cond.laysFinal RX2 "PledgeRings$Orders" "bytes" "[I" ∈ GW := tm1 (List.mem_of_getElem? (i := 157) rfl) rfl
theorem wY_X2_length : Cond.lays RX2 "PledgeRings$Orders" "length" "I" ∈ GW := tm1 (List.mem_of_getElem? (i := 159) rfl) rfl
theorem wY_X2_at : Cond.lays RX2 "PledgeRings$Orders" "at" "I" ∈ GW := tm1 (List.mem_of_getElem? (i := 161) rfl) rfl
theorem wY_X2_errorAt : Cond.lays RX2 "PledgeRings$Orders" "errorAt" "I" ∈ GW := tm1 (List.mem_of_getElem? (i := 163) rfl) rfl
theorem wY_X2_sign : Cond.lays RX2 "PledgeRings$Orders" "sign" "I" ∈ GW := tm1 (List.mem_of_getElem? (i := 165) rfl) rfl
theorem wY_X2_from : Cond.lays RX2 "PledgeRings$Orders" "from" "I" ∈ GW := tm1 (List.mem_of_getElem? (i := 167) rfl) rfl
theorem wY_X2_to : Cond.lays RX2 "PledgeRings$Orders" "to" "I" ∈ GW := tm1 (List.mem_of_getElem? (i := 169) rfl) rfl
theorem wY_X2_amount : Cond.lays RX2 "PledgeRings$Orders" "amount" "I" ∈ GW := tm1 (List.mem_of_getElem? (i := 171) rfl) rfl
theorem wY_X2_rate : Cond.lays RX2 "PledgeRings$Orders" "rate" "I" ∈ GW := tm1 (List.mem_of_getElem? (i := 173) rfl) rfl
theorem wY_X2_number : Cond.lays RX2 "PledgeRings$Orders" "number" "I" ∈ GW := tm1 (List.mem_of_getElem? (i := 175) rfl) rfl
theorem wF_X5_12 : Cond.fieldLink RX5 12 "PledgeRings" "book" "LPledgeRings$Book;" ∈ GW := tm1 (List.mem_of_getElem? (i := 179) rfl) rfl
theorem wF_X5_16 : Cond.fieldLink RX5 16 "PledgeRings" "trial" "LPledgeRings$Book;" ∈ GW := tm1 (List.mem_of_getElem? (i := 180) rfl) rfl
theorem wF_X5_22 : Cond.fieldLink RX5 22 "PledgeRings" "rings" "LPledgeRings$Rings;" ∈ GW := tm1 (List.mem_of_getElem? (i := 181) rfl) rfl
theorem wF_X5_29 : Cond.fieldLink RX5 29 "PledgeRings" "remainder" "LPledgeRings$Remainder;" ∈ GW := tm1 (List.mem_of_getElem? (i := 182) rfl) rfl
theorem wF_X5_36 : Cond.fieldLink RX5 36 "PledgeRings" "orders" "LPledgeRings$Orders;" ∈ GW := tm1 (List.mem_of_getElem? (i := 183) rfl) rfl
theorem wF_X5_40 : Cond.fieldLink RX5 40 "PledgeRings" "saved" "[LPledgeRings$Book;" ∈ GW := tm1 (List.mem_of_getElem? (i := 184) rfl) rfl
theorem wF_X5_262 : Cond.fieldLink RX5 262 "PledgeRings" "savedCount" "I" ∈ GW := tm1 (List.mem_of_getElem? (i := 185) rfl) rfl
theorem wY_X5_book : Cond.laysFinal RX5 "PledgeRings" "book" "LPledgeRings$Book;" ∈ GW := tm1 (List.mem_of_getElem? (i := 186) rfl) rfl
theorem wY_X5_trial : Cond.laysFinal RX5 "PledgeRings" "trial" "LPledgeRings$Book;" ∈ GW := tm1 (List.mem_of_getElem? (i := 188) rfl) rfl
theorem wY_X5_rings : Cond.laysFinal RX5 "PledgeRings" "rings" "LPledgeRings$Rings;" ∈ GW := tm1 (List.mem_of_getElem? (i := 190) rfl) rfl
theorem wY_X5_remainder : Cond.laysFinal RX5 "PledgeRings" "remainder" "LPledgeRings$Remainder;" ∈ GW := tm1 (List.mem_of_getElem? (i := 192) rfl) rfl
theorem wY_X5_orders : Cond.laysFinal RX5 "PledgeRings" "orders" "LPledgeRings$Orders;" ∈ GW := tm1 (List.mem_of_getElem? (i := 194) rfl) rfl
theorem wY_X5_saved : Cond.laysFinal RX5 "PledgeRings" "saved" "[LPledgeRings$Book;" ∈ GW := tm1 (List.mem_of_getElem? (i := 196) rfl) rfl
theorem wY_X5_savedCount : Cond.lays RX5 "PledgeRings" "savedCount" "I" ∈ GW := tm1 (List.mem_of_getElem? (i := 198) rfl) rfl
theorem wL_L_101 : Cond.methodLink RL 101 yX5_bestRing ∈ GW := tm1 (List.mem_of_getElem? (i := 201) rfl) rfl
theorem wI_X5_bestRing : Cond.instanceMethod yX5_bestRing ∈ GW := tm1 (List.mem_of_getElem? (i := 202) rfl) rfl
theorem wSe_X5_X5_bestRing : Cond.selects RX5 yX5_bestRing yX5_bestRing ∈ GW := tm1 (List.mem_of_getElem? (i := 203) rfl) rfl
theorem wC_X5_bestRing : Cond.code yX5_bestRing cX5_bestRing 1 (some .int) ∈ GW := tm1 (List.mem_of_getElem? (i := 204) rfl) rfl
theorem wL_X5_209 : Cond.methodLink RX5 209 yX4_find ∈ GW := tm1 (List.mem_of_getElem? (i := 205) rfl) rfl
theorem wI_X4_find : Cond.instanceMethod yX4_find ∈ GW := tm1 (List.mem_of_getElem? (i := 206) rfl) rfl
theorem wSe_X4_X4_find : Cond.selects RX4 yX4_find yX4_find ∈ GW := tm1 (List.mem_of_getElem? (i := 207) rfl) rfl
theorem wC_X4_find : Cond.code yX4_find cX4_find 3 none ∈ GW := tm1 (List.mem_of_getElem? (i := 208) rfl) rfl
theorem wL_X4_25 : Cond.methodLink RX4 25 yX1_read ∈ GW := tm1 (List.mem_of_getElem? (i := 209) rfl) rfl
theorem wI_X1_read : Cond.instanceMethod yX1_read ∈ GW := tm1 (List.mem_of_getElem? (i := 210) rfl) rfl
theorem wSe_X1_X1_read : Cond.selects RX1 yX1_read yX1_read ∈ GW := tm1 (List.mem_of_getElem? (i := 211) rfl) rfl
theorem wC_X1_read : Cond.code yX1_read cX1_read 4 none ∈ GW := tm1 (List.mem_of_getElem? (i := 212) rfl) rfl
theorem wL_X1_30 : Cond.methodLink RX1 30 yX0_isOwing ∈ GW := tm1 (List.mem_of_getElem? (i := 213) rfl) rfl
theorem wI_X0_isOwing : Cond.instanceMethod yX0_isOwing ∈ GW := tm1 (List.mem_of_getElem? (i := 214) rfl) rfl
theorem wSe_X0_X0_isOwing : Cond.selects RX0 yX0_isOwing yX0_isOwing ∈ GW := tm1 (List.mem_of_getElem? (i := 215) rfl) rfl
theorem wC_X0_isOwing : Cond.code yX0_isOwing cX0_isOwing 2 (some .boolean) ∈ GW := tm1 (List.mem_of_getElem? (i := 216) rfl) rfl
theorem wL_X1_34 : Cond.methodLink RX1 34 yX0_pairOf ∈ GW := tm1 (List.mem_of_getElem? (i := 217) rfl) rfl
theorem wI_X0_pairOf : Cond.instanceMethod yX0_pairOf ∈ GW := tm1 (List.mem_of_getElem? (i := 218) rfl) rfl
theorem wSe_X0_X0_pairOf : Cond.selects RX0 yX0_pairOf yX0_pairOf ∈ GW := tm1 (List.mem_of_getElem? (i := 219) rfl) rfl
theorem wC_X0_pairOf : Cond.code yX0_pairOf cX0_pairOf 2 (some .int) ∈ GW := tm1 (List.mem_of_getElem? (i := 220) rfl) rfl
theorem wL_X1_41 : Cond.methodLink RX1 41 yX1_putFirst ∈ GW := tm1 (List.mem_of_getElem? (i := 221) rfl) rfl
theorem wI_X1_putFirst : Cond.instanceMethod yX1_putFirst ∈ GW := tm1 (List.mem_of_getElem? (i := 223) rfl) rfl
theorem wC_X1_putFirst : Cond.code yX1_putFirst cX1_putFirst 4 none ∈ GW := tm1 (List.mem_of_getElem? (i := 224) rfl) rfl
theorem wLN_X1_45 : Cond.methodLinkNest RX1 45 yX5_isPair RX5 ∈ lw_tbl := tm10 (List.mem_of_getElem? (i := 225) rfl)
theorem wS_X5_isPair : Cond.static yX5_isPair ∈ GW := tm1 (List.mem_of_getElem? (i := 226) rfl) rfl
theorem wC_X5_isPair : Cond.code yX5_isPair cX5_isPair 1 (some .boolean) ∈ GW := tm1 (List.mem_of_getElem? (i := 227) rfl) rfl
theorem wLN_X1_48 : Cond.methodLinkNest RX1 48 yX5_isSlot RX5 ∈ lw_tbl := tm10 (List.mem_of_getElem? (i := 228) rfl)
theorem wS_X5_isSlot : Cond.static yX5_isSlot ∈ GW := tm1 (List.mem_of_getElem? (i := 229) rfl) rfl
theorem wC_X5_isSlot : Cond.code yX5_isSlot cX5_isSlot 1 (some .boolean) ∈ GW := tm1 (List.mem_of_getElem? (i := 230) rfl) rfl
theorem wN_X4_33 : Cond.constant RX4 33 2097151 ∈ GW := tm1 (List.mem_of_getElem? (i := 231) rfl) rfl
theorem wL_X4_34 : Cond.methodLink RX4 34 yX4_rowWith ∈ GW := tm1 (List.mem_of_getElem? (i := 232) rfl) rfl
theorem wS_X4_rowWith : Cond.static yX4_rowWith ∈ GW := tm1 (List.mem_of_getElem? (i := 233) rfl) rfl
theorem wC_X4_rowWith : Cond.code yX4_rowWith cX4_rowWith 4 (some .int) ∈ GW := tm1 (List.mem_of_getElem? (i := 234) rfl) rfl
theorem wL_X4_38 : Cond.methodLink RX4 38 yX4_extend ∈ GW := tm1 (List.mem_of_getElem? (i := 235) rfl) rfl
theorem wS_X4_extend : Cond.static yX4_extend ∈ GW := tm1 (List.mem_of_getElem? (i := 236) rfl) rfl
theorem wC_X4_extend : Cond.code yX4_extend cX4_extend 7 none ∈ GW := tm1 (List.mem_of_getElem? (i := 237) rfl) rfl
theorem wL_X4_42 : Cond.methodLink RX4 42 yX4_partyIn ∈ GW := tm1 (List.mem_of_getElem? (i := 238) rfl) rfl
theorem wS_X4_partyIn : Cond.static yX4_partyIn ∈ GW := tm1 (List.mem_of_getElem? (i := 239) rfl) rfl
theorem wC_X4_partyIn : Cond.code yX4_partyIn cX4_partyIn 3 (some .int) ∈ GW := tm2 (List.mem_of_getElem? (i := 0) rfl) rfl
theorem wL_X4_46 : Cond.methodLink RX4 46 yX1_sumOf ∈ GW := tm2 (List.mem_of_getElem? (i := 1) rfl) rfl
theorem wI_X1_sumOf : Cond.instanceMethod yX1_sumOf ∈ GW := tm2 (List.mem_of_getElem? (i := 2) rfl) rfl
theorem wSe_X1_X1_sumOf : Cond.selects RX1 yX1_sumOf yX1_sumOf ∈ GW := tm2 (List.mem_of_getElem? (i := 3) rfl) rfl
theorem wC_X1_sumOf : Cond.code yX1_sumOf cX1_sumOf 2 (some .int) ∈ GW := tm2 (List.mem_of_getElem? (i := 4) rfl) rfl
theorem wL_X4_50 : Cond.methodLink RX4 50 yX4_addRow ∈ GW := tm2 (List.mem_of_getElem? (i := 5) rfl) rfl
theorem wI_X4_addRow : Cond.instanceMethod yX4_addRow ∈ GW := tm2 (List.mem_of_getElem? (i := 7) rfl) rfl
theorem wC_X4_addRow : Cond.code yX4_addRow cX4_addRow 2 none ∈ GW := tm2 (List.mem_of_getElem? (i := 8) rfl) rfl
theorem wL_X5_213 : Cond.methodLink RX5 213 yX4_best ∈ GW := tm2 (List.mem_of_getElem? (i := 9) rfl) rfl
theorem wI_X4_best : Cond.instanceMethod yX4_best ∈ GW := tm2 (List.mem_of_getElem? (i := 10) rfl) rfl
theorem wSe_X4_X4_best : Cond.selects RX4 yX4_best yX4_best ∈ GW := tm2 (List.mem_of_getElem? (i := 11) rfl) rfl
theorem wC_X4_best : Cond.code yX4_best cX4_best 6 (some .int) ∈ GW := tm2 (List.mem_of_getElem? (i := 12) rfl) rfl
theorem wL_X4_69 : Cond.methodLink RX4 69 yX4_roomAt ∈ GW := tm2 (List.mem_of_getElem? (i := 13) rfl) rfl
theorem wI_X4_roomAt : Cond.instanceMethod yX4_roomAt ∈ GW := tm2 (List.mem_of_getElem? (i := 14) rfl) rfl
theorem wSe_X4_X4_roomAt : Cond.selects RX4 yX4_roomAt yX4_roomAt ∈ GW := tm2 (List.mem_of_getElem? (i := 15) rfl) rfl
theorem wC_X4_roomAt : Cond.code yX4_roomAt cX4_roomAt 6 (some .int) ∈ GW := tm2 (List.mem_of_getElem? (i := 16) rfl) rfl
theorem wL_X4_54 : Cond.methodLink RX4 54 yX4_rowAt ∈ GW := tm2 (List.mem_of_getElem? (i := 17) rfl) rfl
theorem wI_X4_rowAt : Cond.instanceMethod yX4_rowAt ∈ GW := tm2 (List.mem_of_getElem? (i := 19) rfl) rfl
theorem wC_X4_rowAt : Cond.code yX4_rowAt cX4_rowAt 2 (some .int) ∈ GW := tm2 (List.mem_of_getElem? (i := 20) rfl) rfl
theorem wL_X4_57 : Cond.methodLink RX4 57 yX4_pairIn ∈ GW := tm2 (List.mem_of_getElem? (i := 21) rfl) rfl
theorem wS_X4_pairIn : Cond.static yX4_pairIn ∈ GW := tm2 (List.mem_of_getElem? (i := 22) rfl) rfl
theorem wC_X4_pairIn : Cond.code yX4_pairIn cX4_pairIn 4 (some .int) ∈ GW := tm2 (List.mem_of_getElem? (i := 23) rfl) rfl
theorem wL_X4_60 : Cond.methodLink RX4 60 yJ9_min_7cf53 ∈ GW := tm2 (List.mem_of_getElem? (i := 24) rfl) rfl
theorem wS_J9_min_7cf53 : Cond.static yJ9_min_7cf53 ∈ GW := tm2 (List.mem_of_getElem? (i := 25) rfl) rfl
theorem wC_J9_min_7cf53 : Cond.code yJ9_min_7cf53 cJ9_min_7cf53 2 (some .int) ∈ GW := tm2 (List.mem_of_getElem? (i := 26) rfl) rfl
theorem wL_X4_72 : Cond.methodLink RX4 72 yX4_savingAt ∈ GW := tm2 (List.mem_of_getElem? (i := 27) rfl) rfl
theorem wI_X4_savingAt : Cond.instanceMethod yX4_savingAt ∈ GW := tm2 (List.mem_of_getElem? (i := 28) rfl) rfl
theorem wSe_X4_X4_savingAt : Cond.selects RX4 yX4_savingAt yX4_savingAt ∈ GW := tm2 (List.mem_of_getElem? (i := 29) rfl) rfl
theorem wC_X4_savingAt : Cond.code yX4_savingAt cX4_savingAt 7 (some .int) ∈ GW := tm2 (List.mem_of_getElem? (i := 30) rfl) rfl
theorem wL_X4_65 : Cond.methodLink RX4 65 yX1_costOfPart ∈ GW := tm2 (List.mem_of_getElem? (i := 31) rfl) rfl
theorem wI_X1_costOfPart : Cond.instanceMethod yX1_costOfPart ∈ GW := tm2 (List.mem_of_getElem? (i := 32) rfl) rfl
theorem wSe_X1_X1_costOfPart : Cond.selects RX1 yX1_costOfPart yX1_costOfPart ∈ GW := tm2 (List.mem_of_getElem? (i := 33) rfl) rfl
theorem wC_X1_costOfPart : Cond.code yX1_costOfPart cX1_costOfPart 9 (some .int) ∈ GW := tm2 (List.mem_of_getElem? (i := 34) rfl) rfl
theorem wL_X1_51 : Cond.methodLink RX1 51 yJ9_min_7cf53 ∈ GW := tm2 (List.mem_of_getElem? (i := 35) rfl) rfl
theorem wL_L_140 : Cond.methodLink RL 140 yX5_digest ∈ GW := tm2 (List.mem_of_getElem? (i := 36) rfl) rfl
theorem wI_X5_digest : Cond.instanceMethod yX5_digest ∈ GW := tm2 (List.mem_of_getElem? (i := 37) rfl) rfl
theorem wSe_X5_X5_digest : Cond.selects RX5 yX5_digest yX5_digest ∈ GW := tm2 (List.mem_of_getElem? (i := 38) rfl) rfl
theorem wC_X5_digest : Cond.code yX5_digest cX5_digest 5 (some .long) ∈ GW := tm2 (List.mem_of_getElem? (i := 39) rfl) rfl
theorem wN_X5_267 : Cond.constantLong RX5 267 114731 ∈ GW := tm2 (List.mem_of_getElem? (i := 40) rfl) rfl
theorem wN_X5_269 : Cond.constantLong RX5 269 31 ∈ GW := tm2 (List.mem_of_getElem? (i := 41) rfl) rfl
theorem wL_X5_271 : Cond.methodLink RX5 271 yX5_value ∈ GW := tm2 (List.mem_of_getElem? (i := 42) rfl) rfl
theorem wI_X5_value : Cond.instanceMethod yX5_value ∈ GW := tm2 (List.mem_of_getElem? (i := 43) rfl) rfl
theorem wSe_X5_X5_value : Cond.selects RX5 yX5_value yX5_value ∈ GW := tm2 (List.mem_of_getElem? (i := 44) rfl) rfl
theorem wC_X5_value : Cond.code yX5_value cX5_value 2 (some .int) ∈ GW := tm2 (List.mem_of_getElem? (i := 45) rfl) rfl
theorem wL_X5_180 : Cond.methodLink RX5 180 yX0_countOpen ∈ GW := tm2 (List.mem_of_getElem? (i := 46) rfl) rfl
theorem wI_X0_countOpen : Cond.instanceMethod yX0_countOpen ∈ GW := tm2 (List.mem_of_getElem? (i := 47) rfl) rfl
theorem wSe_X0_X0_countOpen : Cond.selects RX0 yX0_countOpen yX0_countOpen ∈ GW := tm2 (List.mem_of_getElem? (i := 48) rfl) rfl
theorem wC_X0_countOpen : Cond.code yX0_countOpen cX0_countOpen 3 (some .int) ∈ GW := tm2 (List.mem_of_getElem? (i := 49) rfl) rfl
theorem wL_X5_183 : Cond.methodLink RX5 183 yX0_countDisputed ∈ GW := tm2 (List.mem_of_getElem? (i := 50) rfl) rfl
theorem wI_X0_countDisputed : Cond.instanceMethod yX0_countDisputed ∈ GW := tm2 (List.mem_of_getElem? (i := 51) rfl) rfl
theorem wSe_X0_X0_countDisputed : Cond.selects RX0 yX0_countDisputed yX0_countDisputed ∈ GW := tm2 (List.mem_of_getElem? (i := 52) rfl) rfl
theorem wC_X0_countDisputed : Cond.code yX0_countDisputed cX0_countDisputed 3 (some .int) ∈ GW := tm2 (List.mem_of_getElem? (i := 53) rfl) rfl
theorem wL_X5_186 : Cond.methodLink RX5 186 yX0_sumOfAmounts ∈ GW := tm2 (List.mem_of_getElem? (i := 54) rfl) rfl
theorem wI_X0_sumOfAmounts : Cond.instanceMethod yX0_sumOfAmounts ∈ GW := tm2 (List.mem_of_getElem? (i := 55) rfl) rfl
theorem wSe_X0_X0_sumOfAmounts : Cond.selects RX0 yX0_sumOfAmounts yX0_sumOfAmounts ∈ GW := tm2 (List.mem_of_getElem? (i := 56) rfl) rfl
theorem wC_X0_sumOfAmounts : Cond.code yX0_sumOfAmounts cX0_sumOfAmounts 3 (some .int) ∈ GW := tm2 (List.mem_of_getElem? (i := 57) rfl) rfl
theorem wL_X5_189 : Cond.methodLink RX5 189 yX0_costOfAll ∈ GW := tm2 (List.mem_of_getElem? (i := 58) rfl) rfl
theorem wI_X0_costOfAll : Cond.instanceMethod yX0_costOfAll ∈ GW := tm2 (List.mem_of_getElem? (i := 59) rfl) rfl
theorem wSe_X0_X0_costOfAll : Cond.selects RX0 yX0_costOfAll yX0_costOfAll ∈ GW := tm2 (List.mem_of_getElem? (i := 60) rfl) rfl
theorem wC_X0_costOfAll : Cond.code yX0_costOfAll cX0_costOfAll 3 (some .int) ∈ GW := tm2 (List.mem_of_getElem? (i := 61) rfl) rfl
theorem wL_X0_79 : Cond.methodLink RX0 79 yX0_costOf ∈ GW := tm2 (List.mem_of_getElem? (i := 62) rfl) rfl
theorem wI_X0_costOf : Cond.instanceMethod yX0_costOf ∈ GW := tm2 (List.mem_of_getElem? (i := 63) rfl) rfl
theorem wSe_X0_X0_costOf : Cond.selects RX0 yX0_costOf yX0_costOf ∈ GW := tm2 (List.mem_of_getElem? (i := 64) rfl) rfl
theorem wC_X0_costOf : Cond.code yX0_costOf cX0_costOf 2 (some .int) ∈ GW := tm2 (List.mem_of_getElem? (i := 65) rfl) rfl
theorem wL_X5_112 : Cond.methodLink RX5 112 yX5_countRings ∈ GW := tm2 (List.mem_of_getElem? (i := 66) rfl) rfl
theorem wI_X5_countRings : Cond.instanceMethod yX5_countRings ∈ GW := tm2 (List.mem_of_getElem? (i := 68) rfl) rfl
theorem wC_X5_countRings : Cond.code yX5_countRings cX5_countRings 1 (some .int) ∈ GW := tm2 (List.mem_of_getElem? (i := 69) rfl) rfl
theorem wL_X5_201 : Cond.methodLink RX5 201 yX0_sumOfGains ∈ GW := tm2 (List.mem_of_getElem? (i := 70) rfl) rfl
theorem wI_X0_sumOfGains : Cond.instanceMethod yX0_sumOfGains ∈ GW := tm2 (List.mem_of_getElem? (i := 71) rfl) rfl
theorem wSe_X0_X0_sumOfGains : Cond.selects RX0 yX0_sumOfGains yX0_sumOfGains ∈ GW := tm2 (List.mem_of_getElem? (i := 72) rfl) rfl
theorem wC_X0_sumOfGains : Cond.code yX0_sumOfGains cX0_sumOfGains 3 (some .int) ∈ GW := tm2 (List.mem_of_getElem? (i := 73) rfl) rfl
theorem wL_X0_69 : Cond.methodLink RX0 69 yX0_netOf ∈ GW := tm2 (List.mem_of_getElem? (i := 74) rfl) rfl
theorem wI_X0_netOf : Cond.instanceMethod yX0_netOf ∈ GW := tm2 (List.mem_of_getElem? (i := 75) rfl) rfl
theorem wSe_X0_X0_netOf : Cond.selects RX0 yX0_netOf yX0_netOf ∈ GW := tm2 (List.mem_of_getElem? (i := 76) rfl) rfl
theorem wC_X0_netOf : Cond.code yX0_netOf cX0_netOf 4 (some .int) ∈ GW := tm2 (List.mem_of_getElem? (i := 77) rfl) rfl
theorem wL_X0_73 : Cond.methodLink RX0 73 yJ9_max_7cf53 ∈ GW := tm2 (List.mem_of_getElem? (i := 78) rfl) rfl
theorem wS_J9_max_7cf53 : Cond.static yJ9_max_7cf53 ∈ GW := tm2 (List.mem_of_getElem? (i := 79) rfl) rfl
theorem wC_J9_max_7cf53 : Cond.code yJ9_max_7cf53 cJ9_max_7cf53 2 (some .int) ∈ GW := tm2 (List.mem_of_getElem? (i := 80) rfl) rfl
theorem wK_X5_44 : Cond.classLink RX5 44 "java/lang/IllegalArgumentException" ∈ GW := tm2 (List.mem_of_getElem? (i := 81) rfl) rfl
theorem wIb_IllegalArgumentException : Cond.instantiable "java/lang/IllegalArgumentException" 6 ∈ GW := tm2 (List.mem_of_getElem? (i := 82) rfl) rfl
theorem wSe_IllegalArgumentException_Throwable_fillInStackTrace_I_Ljava_lang_Throwable_ : Cond.selects "java/lang/IllegalArgumentException" ⟨"java/lang/Throwable", "fillInStackTrace", "(I)Ljava/lang/Throwable;"⟩ ⟨"java/lang/Throwable", "fillInStackTrace", "(I)Ljava/lang/Throwable;"⟩ ∈ GW := tm2 (List.mem_of_getElem? (i := 90) rfl) rfl
theorem wSe_IllegalArgumentException_Throwable_fillInStackTrace__Ljava_lang_Throwable_ : Cond.selects "java/lang/IllegalArgumentException" ⟨"java/lang/Throwable", "fillInStackTrace", "()Ljava/lang/Throwable;"⟩ ⟨"java/lang/Throwable", "fillInStackTrace", "()Ljava/lang/Throwable;"⟩ ∈ GW := tm2 (List.mem_of_getElem? (i := 91) rfl) rfl
theorem wY_IllegalArgumentException_cause : Cond.lays "java/lang/IllegalArgumentException" "java/lang/Throwable" "cause" "Ljava/lang/Throwable;" ∈ GW := tm2 (List.mem_of_getElem? (i := 92) rfl) rfl
theorem wY_Throwable_cause : Cond.lays "java/lang/Throwable" "java/lang/Throwable" "cause" "Ljava/lang/Throwable;" ∈ GW := tm2 (List.mem_of_getElem? (i := 93) rfl) rfl
theorem wY_IllegalArgumentException_stackTrace : Cond.lays "java/lang/IllegalArgumentException" "java/lang/Throwable" "stackTrace" "[Ljava/lang/StackTraceElement;" ∈ GW := tm2 (List.mem_of_getElem? (i := 94) rfl) rfl
theorem wY_Throwable_stackTrace : Cond.lays "java/lang/Throwable" "java/lang/Throwable" "stackTrace" "[Ljava/lang/StackTraceElement;" ∈ GW := tm2 (List.mem_of_getElem? (i := 95) rfl) rfl
theorem wY_IllegalArgumentException_suppressedExceptions : Cond.lays "java/lang/IllegalArgumentException" "java/lang/Throwable" "suppressedExceptions" "Ljava/util/List;" ∈ GW := tm2 (List.mem_of_getElem? (i := 96) rfl) rfl
theorem wY_Throwable_suppressedExceptions : Cond.lays "java/lang/Throwable" "java/lang/Throwable" "suppressedExceptions" "Ljava/util/List;" ∈ GW := tm2 (List.mem_of_getElem? (i := 97) rfl) rfl
theorem wY_IllegalArgumentException_detailMessage : Cond.lays "java/lang/IllegalArgumentException" "java/lang/Throwable" "detailMessage" "Ljava/lang/String;" ∈ GW := tm2 (List.mem_of_getElem? (i := 98) rfl) rfl
theorem wY_Throwable_detailMessage : Cond.lays "java/lang/Throwable" "java/lang/Throwable" "detailMessage" "Ljava/lang/String;" ∈ GW := tm2 (List.mem_of_getElem? (i := 99) rfl) rfl
theorem wY_IllegalArgumentException_backtrace : Cond.lays "java/lang/IllegalArgumentException" "java/lang/Throwable" "backtrace" "Ljava/lang/Object;" ∈ GW := tm2 (List.mem_of_getElem? (i := 100) rfl) rfl
theorem wY_Throwable_backtrace : Cond.lays "java/lang/Throwable" "java/lang/Throwable" "backtrace" "Ljava/lang/Object;" ∈ GW := tm2 (List.mem_of_getElem? (i := 101) rfl) rfl
theorem wF_Throwable_198 : Cond.fieldLink "java/lang/Throwable" 198 "java/lang/Throwable" "backtrace" "Ljava/lang/Object;" ∈ GW := tm2 (List.mem_of_getElem? (i := 102) rfl) rfl
theorem wI_Throwable__init___V : Cond.instanceMethod ⟨"java/lang/Throwable", "<init>", "()V"⟩ ∈ GW := tm2 (List.mem_of_getElem? (i := 104) rfl) rfl
theorem wC_Throwable__init___V : Cond.code ⟨"java/lang/Throwable", "<init>", "()V"⟩ prog_17_method_1_code 1 none ∈ GW := tm2 (List.mem_of_getElem? (i := 105) rfl) rfl
theorem wL_Throwable_1 : Cond.methodLink "java/lang/Throwable" 1 ⟨"java/lang/Object", "<init>", "()V"⟩ ∈ GW := tm2 (List.mem_of_getElem? (i := 106) rfl) rfl
theorem wF_Throwable_13 : Cond.fieldLink "java/lang/Throwable" 13 "java/lang/Throwable" "UNASSIGNED_STACK" "[Ljava/lang/StackTraceElement;" ∈ GW := tm2 (List.mem_of_getElem? (i := 107) rfl) rfl
theorem wF_Throwable_20 : Cond.fieldLink "java/lang/Throwable" 20 "java/lang/Throwable" "SUPPRESSED_SENTINEL" "Ljava/util/List;" ∈ GW := tm2 (List.mem_of_getElem? (i := 109) rfl) rfl
theorem wL_Throwable_27 : Cond.methodLink "java/lang/Throwable" 27 ⟨"java/lang/Throwable", "fillInStackTrace", "()Ljava/lang/Throwable;"⟩ ∈ GW := tm2 (List.mem_of_getElem? (i := 111) rfl) rfl
theorem wI_Throwable_fillInStackTrace__Ljava_lang_Throwable_ : Cond.instanceMethod ⟨"java/lang/Throwable", "fillInStackTrace", "()Ljava/lang/Throwable;"⟩ ∈ GW := tm2 (List.mem_of_getElem? (i := 112) rfl) rfl
theorem wSe_IllegalStateException_Throwable_fillInStackTrace__Ljava_lang_Throwable_ : Cond.selects "java/lang/IllegalStateException" ⟨"java/lang/Throwable", "fillInStackTrace", "()Ljava/lang/Throwable;"⟩ ⟨"java/lang/Throwable", "fillInStackTrace", "()Ljava/lang/Throwable;"⟩ ∈ GW := tm2 (List.mem_of_getElem? (i := 114) rfl) rfl
theorem wSe_IndexOutOfBoundsException_Throwable_fillInStackTrace__Ljava_lang_Throwable_ : Cond.selects "java/lang/IndexOutOfBoundsException" ⟨"java/lang/Throwable", "fillInStackTrace", "()Ljava/lang/Throwable;"⟩ ⟨"java/lang/Throwable", "fillInStackTrace", "()Ljava/lang/Throwable;"⟩ ∈ GW := tm2 (List.mem_of_getElem? (i := 115) rfl) rfl
theorem wL_Throwable_202 : Cond.methodLink "java/lang/Throwable" 202 ⟨"java/lang/Throwable", "fillInStackTrace", "(I)Ljava/lang/Throwable;"⟩ ∈ GW := tm2 (List.mem_of_getElem? (i := 117) rfl) rfl
theorem wI_Throwable_fillInStackTrace_I_Ljava_lang_Throwable_ : Cond.instanceMethod ⟨"java/lang/Throwable", "fillInStackTrace", "(I)Ljava/lang/Throwable;"⟩ ∈ GW := tm2 (List.mem_of_getElem? (i := 119) rfl) rfl
theorem wIb_Throwable : Cond.instantiable "java/lang/Throwable" 6 ∈ GW := tm2 (List.mem_of_getElem? (i := 120) rfl) rfl
theorem wNa_Throwable_fillInStackTrace_I_Ljava_lang_Throwable_ : Cond.native ⟨"java/lang/Throwable", "fillInStackTrace", "(I)Ljava/lang/Throwable;"⟩ ∈ GW := tm2 (List.mem_of_getElem? (i := 121) rfl) rfl
theorem wL_X5_48 : Cond.methodLink RX5 48 ⟨"java/lang/IllegalArgumentException", "<init>", "(Ljava/lang/String;)V"⟩ ∈ GW := tm2 (List.mem_of_getElem? (i := 123) rfl) rfl
theorem wI_IllegalArgumentException__init__Ljava_lang_String__V : Cond.instanceMethod ⟨"java/lang/IllegalArgumentException", "<init>", "(Ljava/lang/String;)V"⟩ ∈ GW := tm2 (List.mem_of_getElem? (i := 124) rfl) rfl
theorem wC_IllegalArgumentException__init__Ljava_lang_String__V : Cond.code ⟨"java/lang/IllegalArgumentException", "<init>", "(Ljava/lang/String;)V"⟩ prog_10_method_2_code 2 none ∈ GW := tm2 (List.mem_of_getElem? (i := 125) rfl) rfl
theorem wL_IllegalArgumentException_7 : Cond.methodLink "java/lang/IllegalArgumentException" 7 ⟨"java/lang/RuntimeException", "<init>", "(Ljava/lang/String;)V"⟩ ∈ GW := tm2 (List.mem_of_getElem? (i := 126) rfl) rfl
theorem wI_RuntimeException__init__Ljava_lang_String__V : Cond.instanceMethod ⟨"java/lang/RuntimeException", "<init>", "(Ljava/lang/String;)V"⟩ ∈ GW := tm2 (List.mem_of_getElem? (i := 127) rfl) rfl
theorem wC_RuntimeException__init__Ljava_lang_String__V : Cond.code ⟨"java/lang/RuntimeException", "<init>", "(Ljava/lang/String;)V"⟩ prog_14_method_2_code 2 none ∈ GW := tm2 (List.mem_of_getElem? (i := 128) rfl) rfl
theorem wL_RuntimeException_7 : Cond.methodLink "java/lang/RuntimeException" 7 ⟨"java/lang/Exception", "<init>", "(Ljava/lang/String;)V"⟩ ∈ GW := tm2 (List.mem_of_getElem? (i := 129) rfl) rfl
theorem wI_Exception__init__Ljava_lang_String__V : Cond.instanceMethod ⟨"java/lang/Exception", "<init>", "(Ljava/lang/String;)V"⟩ ∈ GW := tm2 (List.mem_of_getElem? (i := 130) rfl) rfl
theorem wC_Exception__init__Ljava_lang_String__V : Cond.code ⟨"java/lang/Exception", "<init>", "(Ljava/lang/String;)V"⟩ prog_9_method_2_code 2 none ∈ GW := tm2 (List.mem_of_getElem? (i := 131) rfl) rfl
theorem wL_Exception_7 : Cond.methodLink "java/lang/Exception" 7 ⟨"java/lang/Throwable", "<init>", "(Ljava/lang/String;)V"⟩ ∈ GW := tm2 (List.mem_of_getElem? (i := 132) rfl) rfl
theorem wI_Throwable__init__Ljava_lang_String__V : Cond.instanceMethod ⟨"java/lang/Throwable", "<init>", "(Ljava/lang/String;)V"⟩ ∈ GW := tm2 (List.mem_of_getElem? (i := 133) rfl) rfl
theorem wC_Throwable__init__Ljava_lang_String__V : Cond.code ⟨"java/lang/Throwable", "<init>", "(Ljava/lang/String;)V"⟩ prog_17_method_2_code 2 none ∈ GW := tm2 (List.mem_of_getElem? (i := 134) rfl) rfl
theorem wF_Throwable_31 : Cond.fieldLink "java/lang/Throwable" 31 "java/lang/Throwable" "detailMessage" "Ljava/lang/String;" ∈ GW := tm2 (List.mem_of_getElem? (i := 136) rfl) rfl
theorem wF_Throwable_7 : Cond.fieldLink "java/lang/Throwable" 7 "java/lang/Throwable" "cause" "Ljava/lang/Throwable;" ∈ GW := tm2 (List.mem_of_getElem? (i := 137) rfl) rfl
theorem wF_Throwable_17 : Cond.fieldLink "java/lang/Throwable" 17 "java/lang/Throwable" "stackTrace" "[Ljava/lang/StackTraceElement;" ∈ GW := tm2 (List.mem_of_getElem? (i := 138) rfl) rfl
theorem wF_Throwable_24 : Cond.fieldLink "java/lang/Throwable" 24 "java/lang/Throwable" "suppressedExceptions" "Ljava/util/List;" ∈ GW := tm2 (List.mem_of_getElem? (i := 139) rfl) rfl
theorem wY_IllegalArgumentException_depth : Cond.lays "java/lang/IllegalArgumentException" "java/lang/Throwable" "depth" "I" ∈ GW := tm2 (List.mem_of_getElem? (i := 144) rfl) rfl
theorem wA__byte : Cond.arrayClass .byte ∈ GW := tm2 (List.mem_of_getElem? (i := 148) rfl) rfl
theorem wL_X5_274 : Cond.methodLink RX5 274 yX5_promiseOf ∈ GW := tm2 (List.mem_of_getElem? (i := 149) rfl) rfl
theorem wI_X5_promiseOf : Cond.instanceMethod yX5_promiseOf ∈ GW := tm2 (List.mem_of_getElem? (i := 150) rfl) rfl
theorem wSe_X5_X5_promiseOf : Cond.selects RX5 yX5_promiseOf yX5_promiseOf ∈ GW := tm2 (List.mem_of_getElem? (i := 151) rfl) rfl
theorem wC_X5_promiseOf : Cond.code yX5_promiseOf cX5_promiseOf 3 (some .int) ∈ GW := tm2 (List.mem_of_getElem? (i := 152) rfl) rfl
theorem wL_X5_90 : Cond.methodLink RX5 90 yX0_holds ∈ GW := tm2 (List.mem_of_getElem? (i := 153) rfl) rfl
theorem wI_X0_holds : Cond.instanceMethod yX0_holds ∈ GW := tm2 (List.mem_of_getElem? (i := 154) rfl) rfl
theorem wSe_X0_X0_holds : Cond.selects RX0 yX0_holds yX0_holds ∈ GW := tm2 (List.mem_of_getElem? (i := 155) rfl) rfl
theorem wC_X0_holds : Cond.code yX0_holds cX0_holds 2 (some .boolean) ∈ GW := tm2 (List.mem_of_getElem? (i := 156) rfl) rfl
theorem wK_X5_66 : Cond.classLink RX5 66 "java/lang/IndexOutOfBoundsException" ∈ GW := tm2 (List.mem_of_getElem? (i := 157) rfl) rfl
theorem wIb_IndexOutOfBoundsException : Cond.instantiable "java/lang/IndexOutOfBoundsException" 6 ∈ GW := tm2 (List.mem_of_getElem? (i := 158) rfl) rfl
theorem wSe_IndexOutOfBoundsException_Throwable_fillInStackTrace_I_Ljava_lang_Throwable_ : Cond.selects "java/lang/IndexOutOfBoundsException" ⟨"java/lang/Throwable", "fillInStackTrace", "(I)Ljava/lang/Throwable;"⟩ ⟨"java/lang/Throwable", "fillInStackTrace", "(I)Ljava/lang/Throwable;"⟩ ∈ GW := tm2 (List.mem_of_getElem? (i := 160) rfl) rfl
theorem wY_IndexOutOfBoundsException_cause : Cond.lays "java/lang/IndexOutOfBoundsException" "java/lang/Throwable" "cause" "Ljava/lang/Throwable;" ∈ GW := tm2 (List.mem_of_getElem? (i := 161) rfl) rfl
theorem wY_IndexOutOfBoundsException_stackTrace : Cond.lays "java/lang/IndexOutOfBoundsException" "java/lang/Throwable" "stackTrace" "[Ljava/lang/StackTraceElement;" ∈ GW := tm2 (List.mem_of_getElem? (i := 162) rfl) rfl
theorem wY_IndexOutOfBoundsException_suppressedExceptions : Cond.lays "java/lang/IndexOutOfBoundsException" "java/lang/Throwable" "suppressedExceptions" "Ljava/util/List;" ∈ GW := tm2 (List.mem_of_getElem? (i := 163) rfl) rfl
theorem wY_IndexOutOfBoundsException_detailMessage : Cond.lays "java/lang/IndexOutOfBoundsException" "java/lang/Throwable" "detailMessage" "Ljava/lang/String;" ∈ GW := tm2 (List.mem_of_getElem? (i := 164) rfl) rfl
theorem wY_IndexOutOfBoundsException_backtrace : Cond.lays "java/lang/IndexOutOfBoundsException" "java/lang/Throwable" "backtrace" "Ljava/lang/Object;" ∈ GW := tm2 (List.mem_of_getElem? (i := 165) rfl) rfl
theorem wL_X5_70 : Cond.methodLink RX5 70 ⟨"java/lang/IndexOutOfBoundsException", "<init>", "(Ljava/lang/String;)V"⟩ ∈ GW := tm2 (List.mem_of_getElem? (i := 167) rfl) rfl
theorem wI_IndexOutOfBoundsException__init__Ljava_lang_String__V : Cond.instanceMethod ⟨"java/lang/IndexOutOfBoundsException", "<init>", "(Ljava/lang/String;)V"⟩ ∈ GW := tm2 (List.mem_of_getElem? (i := 168) rfl) rfl
theorem wC_IndexOutOfBoundsException__init__Ljava_lang_String__V : Cond.code ⟨"java/lang/IndexOutOfBoundsException", "<init>", "(Ljava/lang/String;)V"⟩ prog_12_method_2_code 2 none ∈ GW := tm2 (List.mem_of_getElem? (i := 169) rfl) rfl
theorem wL_IndexOutOfBoundsException_7 : Cond.methodLink "java/lang/IndexOutOfBoundsException" 7 ⟨"java/lang/RuntimeException", "<init>", "(Ljava/lang/String;)V"⟩ ∈ GW := tm2 (List.mem_of_getElem? (i := 170) rfl) rfl
theorem wY_IndexOutOfBoundsException_depth : Cond.lays "java/lang/IndexOutOfBoundsException" "java/lang/Throwable" "depth" "I" ∈ GW := tm2 (List.mem_of_getElem? (i := 171) rfl) rfl
theorem wL_X5_169 : Cond.methodLink RX5 169 yX0_netOf ∈ GW := tm2 (List.mem_of_getElem? (i := 174) rfl) rfl
theorem wL_X5_165 : Cond.methodLink RX5 165 yX0_debtBetween ∈ GW := tm2 (List.mem_of_getElem? (i := 175) rfl) rfl
theorem wI_X0_debtBetween : Cond.instanceMethod yX0_debtBetween ∈ GW := tm2 (List.mem_of_getElem? (i := 176) rfl) rfl
theorem wSe_X0_X0_debtBetween : Cond.selects RX0 yX0_debtBetween yX0_debtBetween ∈ GW := tm2 (List.mem_of_getElem? (i := 177) rfl) rfl
theorem wC_X0_debtBetween : Cond.code yX0_debtBetween cX0_debtBetween 5 (some .int) ∈ GW := tm2 (List.mem_of_getElem? (i := 178) rfl) rfl
theorem wL_X5_277 : Cond.methodLink RX5 277 yX5_bestRing ∈ GW := tm2 (List.mem_of_getElem? (i := 179) rfl) rfl
theorem wL_X5_219 : Cond.methodLink RX5 219 yX3_leastCostOf ∈ GW := tm2 (List.mem_of_getElem? (i := 180) rfl) rfl
theorem wI_X3_leastCostOf : Cond.instanceMethod yX3_leastCostOf ∈ GW := tm2 (List.mem_of_getElem? (i := 181) rfl) rfl
theorem wSe_X3_X3_leastCostOf : Cond.selects RX3 yX3_leastCostOf yX3_leastCostOf ∈ GW := tm2 (List.mem_of_getElem? (i := 182) rfl) rfl
theorem wC_X3_leastCostOf : Cond.code yX3_leastCostOf cX3_leastCostOf 4 (some .int) ∈ GW := tm2 (List.mem_of_getElem? (i := 183) rfl) rfl
theorem wL_X3_24 : Cond.methodLink RX3 24 yX3_start ∈ GW := tm2 (List.mem_of_getElem? (i := 184) rfl) rfl
theorem wI_X3_start : Cond.instanceMethod yX3_start ∈ GW := tm2 (List.mem_of_getElem? (i := 186) rfl) rfl
theorem wC_X3_start : Cond.code yX3_start cX3_start 3 none ∈ GW := tm2 (List.mem_of_getElem? (i := 187) rfl) rfl
theorem wL_X3_50 : Cond.methodLink RX3 50 yX0_isOwing ∈ GW := tm2 (List.mem_of_getElem? (i := 188) rfl) rfl
theorem wL_X3_60 : Cond.methodLink RX3 60 yX3_addExcess ∈ GW := tm2 (List.mem_of_getElem? (i := 189) rfl) rfl
theorem wI_X3_addExcess : Cond.instanceMethod yX3_addExcess ∈ GW := tm2 (List.mem_of_getElem? (i := 191) rfl) rfl
theorem wC_X3_addExcess : Cond.code yX3_addExcess cX3_addExcess 3 none ∈ GW := tm2 (List.mem_of_getElem? (i := 192) rfl) rfl
theorem wLN_X3_67 : Cond.methodLinkNest RX3 67 yX5_isParty RX5 ∈ lw_tbl := tm20 (List.mem_of_getElem? (i := 193) rfl)
theorem wS_X5_isParty : Cond.static yX5_isParty ∈ GW := tm2 (List.mem_of_getElem? (i := 194) rfl) rfl
theorem wC_X5_isParty : Cond.code yX5_isParty cX5_isParty 1 (some .boolean) ∈ GW := tm2 (List.mem_of_getElem? (i := 195) rfl) rfl
theorem wL_X3_28 : Cond.methodLink RX3 28 yX3_measure ∈ GW := tm2 (List.mem_of_getElem? (i := 196) rfl) rfl
theorem wI_X3_measure : Cond.instanceMethod yX3_measure ∈ GW := tm2 (List.mem_of_getElem? (i := 198) rfl) rfl
theorem wC_X3_measure : Cond.code yX3_measure cX3_measure 5 none ∈ GW := tm2 (List.mem_of_getElem? (i := 199) rfl) rfl
theorem wN_X3_70 : Cond.constant RX3 70 1000000 ∈ GW := tm2 (List.mem_of_getElem? (i := 200) rfl) rfl
theorem wL_X3_71 : Cond.methodLink RX3 71 yX3_shorten ∈ GW := tm2 (List.mem_of_getElem? (i := 201) rfl) rfl
theorem wI_X3_shorten : Cond.instanceMethod yX3_shorten ∈ GW := tm2 (List.mem_of_getElem? (i := 203) rfl) rfl
theorem wC_X3_shorten : Cond.code yX3_shorten cX3_shorten 4 (some .boolean) ∈ GW := tm2 (List.mem_of_getElem? (i := 204) rfl) rfl
theorem wL_X3_78 : Cond.methodLink RX3 78 yX3_reach ∈ GW := tm2 (List.mem_of_getElem? (i := 205) rfl) rfl
theorem wI_X3_reach : Cond.instanceMethod yX3_reach ∈ GW := tm2 (List.mem_of_getElem? (i := 207) rfl) rfl
theorem wC_X3_reach : Cond.code yX3_reach cX3_reach 5 (some .boolean) ∈ GW := tm2 (List.mem_of_getElem? (i := 208) rfl) rfl
theorem wL_X3_31 : Cond.methodLink RX3 31 yX3_nearestEnd ∈ GW := tm2 (List.mem_of_getElem? (i := 209) rfl) rfl
theorem wI_X3_nearestEnd : Cond.instanceMethod yX3_nearestEnd ∈ GW := tm2 (List.mem_of_getElem? (i := 211) rfl) rfl
theorem wC_X3_nearestEnd : Cond.code yX3_nearestEnd cX3_nearestEnd 4 (some .int) ∈ GW := tm2 (List.mem_of_getElem? (i := 212) rfl) rfl
theorem wN_X3_35 : Cond.constant RX3 35 40000 ∈ GW := tm2 (List.mem_of_getElem? (i := 213) rfl) rfl
theorem wL_X3_36 : Cond.methodLink RX3 36 yX3_push ∈ GW := tm2 (List.mem_of_getElem? (i := 214) rfl) rfl
theorem wI_X3_push : Cond.instanceMethod yX3_push ∈ GW := tm2 (List.mem_of_getElem? (i := 216) rfl) rfl
theorem wC_X3_push : Cond.code yX3_push cX3_push 8 none ∈ GW := tm2 (List.mem_of_getElem? (i := 217) rfl) rfl
theorem wL_X3_82 : Cond.methodLink RX3 82 yX3_originOf ∈ GW := tm2 (List.mem_of_getElem? (i := 218) rfl) rfl
theorem wI_X3_originOf : Cond.instanceMethod yX3_originOf ∈ GW := tm2 (List.mem_of_getElem? (i := 220) rfl) rfl
theorem wC_X3_originOf : Cond.code yX3_originOf cX3_originOf 5 (some .int) ∈ GW := tm2 (List.mem_of_getElem? (i := 221) rfl) rfl
theorem wL_X3_95 : Cond.methodLink RX3 95 yX3_promiseTo ∈ GW := tm2 (List.mem_of_getElem? (i := 222) rfl) rfl
theorem wI_X3_promiseTo : Cond.instanceMethod yX3_promiseTo ∈ GW := tm2 (List.mem_of_getElem? (i := 224) rfl) rfl
theorem wC_X3_promiseTo : Cond.code yX3_promiseTo cX3_promiseTo 3 (some .int) ∈ GW := tm2 (List.mem_of_getElem? (i := 225) rfl) rfl
theorem wLN_X3_102 : Cond.methodLinkNest RX3 102 yX5_isSlot RX5 ∈ lw_tbl := tm20 (List.mem_of_getElem? (i := 226) rfl)
theorem wL_X3_99 : Cond.methodLink RX3 99 yX3_before ∈ GW := tm2 (List.mem_of_getElem? (i := 227) rfl) rfl
theorem wI_X3_before : Cond.instanceMethod yX3_before ∈ GW := tm2 (List.mem_of_getElem? (i := 229) rfl) rfl
theorem wC_X3_before : Cond.code yX3_before cX3_before 4 (some .int) ∈ GW := tm2 (List.mem_of_getElem? (i := 230) rfl) rfl
theorem wL_X3_86 : Cond.methodLink RX3 86 yX3_widthTo ∈ GW := tm2 (List.mem_of_getElem? (i := 231) rfl) rfl
theorem wI_X3_widthTo : Cond.instanceMethod yX3_widthTo ∈ GW := tm2 (List.mem_of_getElem? (i := 233) rfl) rfl
theorem wC_X3_widthTo : Cond.code yX3_widthTo cX3_widthTo 8 (some .int) ∈ GW := tm2 (List.mem_of_getElem? (i := 234) rfl) rfl
theorem wL_X3_89 : Cond.methodLink RX3 89 yJ9_min_7cf53 ∈ GW := tm2 (List.mem_of_getElem? (i := 235) rfl) rfl
theorem wL_X3_40 : Cond.methodLink RX3 40 yX3_costThatStays ∈ GW := tm2 (List.mem_of_getElem? (i := 236) rfl) rfl
theorem wI_X3_costThatStays : Cond.instanceMethod yX3_costThatStays ∈ GW := tm2 (List.mem_of_getElem? (i := 238) rfl) rfl
theorem wC_X3_costThatStays : Cond.code yX3_costThatStays cX3_costThatStays 4 (some .int) ∈ GW := tm2 (List.mem_of_getElem? (i := 239) rfl) rfl
theorem wL_X3_109 : Cond.methodLink RX3 109 yX0_costOf ∈ GW := tm3 (List.mem_of_getElem? (i := 0) rfl) rfl
theorem wL_L_111 : Cond.methodLink RL 111 yL_cell ∈ GW := tm3 (List.mem_of_getElem? (i := 1) rfl) rfl
theorem wS_L_cell : Cond.static yL_cell ∈ GW := tm3 (List.mem_of_getElem? (i := 2) rfl) rfl
theorem wC_L_cell : Cond.code yL_cell cL_cell 2 (some .int) ∈ GW := tm3 (List.mem_of_getElem? (i := 3) rfl) rfl
theorem wN_L_7 : Cond.constant RL 7 2147483647 ∈ GW := tm3 (List.mem_of_getElem? (i := 4) rfl) rfl
theorem wL_L_115 : Cond.methodLink RL 115 yL_begins ∈ GW := tm3 (List.mem_of_getElem? (i := 5) rfl) rfl
theorem wS_L_begins : Cond.static yL_begins ∈ GW := tm3 (List.mem_of_getElem? (i := 6) rfl) rfl
theorem wC_L_begins : Cond.codeWith yL_begins cL_begins 3 (some .int) [(0, 5, 6, 14)] ∈ GW := tm3 (List.mem_of_getElem? (i := 7) rfl) rfl
theorem wK_L_14 : Cond.classLink RL 14 "java/lang/IllegalArgumentException" ∈ GW := tm3 (List.mem_of_getElem? (i := 8) rfl) rfl
theorem wL_L_8 : Cond.methodLink RL 8 yX5_begin ∈ GW := tm3 (List.mem_of_getElem? (i := 9) rfl) rfl
theorem wI_X5_begin : Cond.instanceMethod yX5_begin ∈ GW := tm3 (List.mem_of_getElem? (i := 10) rfl) rfl
theorem wSe_X5_X5_begin : Cond.selects RX5 yX5_begin yX5_begin ∈ GW := tm3 (List.mem_of_getElem? (i := 11) rfl) rfl
theorem wC_X5_begin : Cond.code yX5_begin cX5_begin 3 (some .int) ∈ GW := tm3 (List.mem_of_getElem? (i := 12) rfl) rfl
theorem wL_X5_51 : Cond.methodLink RX5 51 yX5_save ∈ GW := tm3 (List.mem_of_getElem? (i := 14) rfl) rfl
theorem wI_X5_save : Cond.instanceMethod yX5_save ∈ GW := tm3 (List.mem_of_getElem? (i := 16) rfl) rfl
theorem wC_X5_save : Cond.code yX5_save cX5_save 2 none ∈ GW := tm3 (List.mem_of_getElem? (i := 17) rfl) rfl
theorem wL_X5_283 : Cond.methodLink RX5 283 yX5_dropOldest ∈ GW := tm3 (List.mem_of_getElem? (i := 18) rfl) rfl
theorem wI_X5_dropOldest : Cond.instanceMethod yX5_dropOldest ∈ GW := tm3 (List.mem_of_getElem? (i := 20) rfl) rfl
theorem wC_X5_dropOldest : Cond.code yX5_dropOldest cX5_dropOldest 3 none ∈ GW := tm3 (List.mem_of_getElem? (i := 21) rfl) rfl
theorem wL_X5_216 : Cond.methodLink RX5 216 yX0_copyFrom ∈ GW := tm3 (List.mem_of_getElem? (i := 22) rfl) rfl
theorem wI_X0_copyFrom : Cond.instanceMethod yX0_copyFrom ∈ GW := tm3 (List.mem_of_getElem? (i := 23) rfl) rfl
theorem wSe_X0_X0_copyFrom : Cond.selects RX0 yX0_copyFrom yX0_copyFrom ∈ GW := tm3 (List.mem_of_getElem? (i := 24) rfl) rfl
theorem wC_X0_copyFrom : Cond.code yX0_copyFrom cX0_copyFrom 3 none ∈ GW := tm3 (List.mem_of_getElem? (i := 25) rfl) rfl
theorem wL_X0_53 : Cond.methodLink RX0 53 ⟨"java/lang/System", "arraycopy", "(Ljava/lang/Object;ILjava/lang/Object;II)V"⟩ ∈ GW := tm3 (List.mem_of_getElem? (i := 26) rfl) rfl
theorem wS_J10_arraycopy_Ljava_lang_Object_ILjava_lang_Object_II_V : Cond.static ⟨"java/lang/System", "arraycopy", "(Ljava/lang/Object;ILjava/lang/Object;II)V"⟩ ∈ GW := tm3 (List.mem_of_getElem? (i := 27) rfl) rfl
theorem wNa_J10_arraycopy_Ljava_lang_Object_ILjava_lang_Object_II_V : Cond.native ⟨"java/lang/System", "arraycopy", "(Ljava/lang/Object;ILjava/lang/Object;II)V"⟩ ∈ GW := tm3 (List.mem_of_getElem? (i := 28) rfl) rfl
theorem wL_X5_58 : Cond.methodLink RX5 58 yX0_restart ∈ GW := tm3 (List.mem_of_getElem? (i := 29) rfl) rfl
theorem wI_X0_restart : Cond.instanceMethod yX0_restart ∈ GW := tm3 (List.mem_of_getElem? (i := 30) rfl) rfl
theorem wSe_X0_X0_restart : Cond.selects RX0 yX0_restart yX0_restart ∈ GW := tm3 (List.mem_of_getElem? (i := 31) rfl) rfl
theorem wC_X0_restart : Cond.code yX0_restart cX0_restart 2 none ∈ GW := tm3 (List.mem_of_getElem? (i := 32) rfl) rfl
theorem wN_L_16 : Cond.constant RL 16 (-2000001) ∈ GW := tm3 (List.mem_of_getElem? (i := 33) rfl) rfl
theorem wL_L_119 : Cond.methodLink RL 119 yL_promises ∈ GW := tm3 (List.mem_of_getElem? (i := 34) rfl) rfl
theorem wS_L_promises : Cond.static yL_promises ∈ GW := tm3 (List.mem_of_getElem? (i := 35) rfl) rfl
theorem wC_L_promises : Cond.codeWith yL_promises cL_promises 6 (some .int) [(0, 9, 10, 21), (0, 9, 15, 14), (0, 9, 20, 24)] ∈ GW := tm3 (List.mem_of_getElem? (i := 36) rfl) rfl
theorem wK_L_21 : Cond.classLink RL 21 "java/lang/IndexOutOfBoundsException" ∈ GW := tm3 (List.mem_of_getElem? (i := 37) rfl) rfl
theorem wK_L_24 : Cond.classLink RL 24 "java/lang/IllegalStateException" ∈ GW := tm3 (List.mem_of_getElem? (i := 38) rfl) rfl
theorem wL_L_17 : Cond.methodLink RL 17 yX5_promise ∈ GW := tm3 (List.mem_of_getElem? (i := 39) rfl) rfl
theorem wI_X5_promise : Cond.instanceMethod yX5_promise ∈ GW := tm3 (List.mem_of_getElem? (i := 40) rfl) rfl
theorem wSe_X5_X5_promise : Cond.selects RX5 yX5_promise yX5_promise ∈ GW := tm3 (List.mem_of_getElem? (i := 41) rfl) rfl
theorem wC_X5_promise : Cond.code yX5_promise cX5_promise 5 (some .int) ∈ GW := tm3 (List.mem_of_getElem? (i := 42) rfl) rfl
theorem wL_X5_62 : Cond.methodLink RX5 62 yX0_hasParty ∈ GW := tm3 (List.mem_of_getElem? (i := 43) rfl) rfl
theorem wI_X0_hasParty : Cond.instanceMethod yX0_hasParty ∈ GW := tm3 (List.mem_of_getElem? (i := 44) rfl) rfl
theorem wSe_X0_X0_hasParty : Cond.selects RX0 yX0_hasParty yX0_hasParty ∈ GW := tm3 (List.mem_of_getElem? (i := 45) rfl) rfl
theorem wC_X0_hasParty : Cond.code yX0_hasParty cX0_hasParty 2 (some .boolean) ∈ GW := tm3 (List.mem_of_getElem? (i := 46) rfl) rfl
theorem wL_X5_71 : Cond.methodLink RX5 71 yX5_canBePromised ∈ GW := tm3 (List.mem_of_getElem? (i := 48) rfl) rfl
theorem wS_X5_canBePromised : Cond.static yX5_canBePromised ∈ GW := tm3 (List.mem_of_getElem? (i := 49) rfl) rfl
theorem wC_X5_canBePromised : Cond.code yX5_canBePromised cX5_canBePromised 4 (some .boolean) ∈ GW := tm3 (List.mem_of_getElem? (i := 50) rfl) rfl
theorem wL_X5_77 : Cond.methodLink RX5 77 yX0_isFull ∈ GW := tm3 (List.mem_of_getElem? (i := 52) rfl) rfl
theorem wI_X0_isFull : Cond.instanceMethod yX0_isFull ∈ GW := tm3 (List.mem_of_getElem? (i := 53) rfl) rfl
theorem wSe_X0_X0_isFull : Cond.selects RX0 yX0_isFull yX0_isFull ∈ GW := tm3 (List.mem_of_getElem? (i := 54) rfl) rfl
theorem wC_X0_isFull : Cond.code yX0_isFull cX0_isFull 1 (some .boolean) ∈ GW := tm3 (List.mem_of_getElem? (i := 55) rfl) rfl
theorem wK_X5_81 : Cond.classLink RX5 81 "java/lang/IllegalStateException" ∈ GW := tm3 (List.mem_of_getElem? (i := 56) rfl) rfl
theorem wIb_IllegalStateException : Cond.instantiable "java/lang/IllegalStateException" 6 ∈ GW := tm3 (List.mem_of_getElem? (i := 57) rfl) rfl
theorem wSe_IllegalStateException_Throwable_fillInStackTrace_I_Ljava_lang_Throwable_ : Cond.selects "java/lang/IllegalStateException" ⟨"java/lang/Throwable", "fillInStackTrace", "(I)Ljava/lang/Throwable;"⟩ ⟨"java/lang/Throwable", "fillInStackTrace", "(I)Ljava/lang/Throwable;"⟩ ∈ GW := tm3 (List.mem_of_getElem? (i := 59) rfl) rfl
theorem wY_IllegalStateException_cause : Cond.lays "java/lang/IllegalStateException" "java/lang/Throwable" "cause" "Ljava/lang/Throwable;" ∈ GW := tm3 (List.mem_of_getElem? (i := 60) rfl) rfl
theorem wY_IllegalStateException_stackTrace : Cond.lays "java/lang/IllegalStateException" "java/lang/Throwable" "stackTrace" "[Ljava/lang/StackTraceElement;" ∈ GW := tm3 (List.mem_of_getElem? (i := 61) rfl) rfl
theorem wY_IllegalStateException_suppressedExceptions : Cond.lays "java/lang/IllegalStateException" "java/lang/Throwable" "suppressedExceptions" "Ljava/util/List;" ∈ GW := tm3 (List.mem_of_getElem? (i := 62) rfl) rfl
theorem wY_IllegalStateException_detailMessage : Cond.lays "java/lang/IllegalStateException" "java/lang/Throwable" "detailMessage" "Ljava/lang/String;" ∈ GW := tm3 (List.mem_of_getElem? (i := 63) rfl) rfl
theorem wY_IllegalStateException_backtrace : Cond.lays "java/lang/IllegalStateException" "java/lang/Throwable" "backtrace" "Ljava/lang/Object;" ∈ GW := tm3 (List.mem_of_getElem? (i := 64) rfl) rfl
theorem wL_X5_85 : Cond.methodLink RX5 85 ⟨"java/lang/IllegalStateException", "<init>", "(Ljava/lang/String;)V"⟩ ∈ GW := tm3 (List.mem_of_getElem? (i := 66) rfl) rfl
theorem wI_IllegalStateException__init__Ljava_lang_String__V : Cond.instanceMethod ⟨"java/lang/IllegalStateException", "<init>", "(Ljava/lang/String;)V"⟩ ∈ GW := tm3 (List.mem_of_getElem? (i := 67) rfl) rfl
theorem wC_IllegalStateException__init__Ljava_lang_String__V : Cond.code ⟨"java/lang/IllegalStateException", "<init>", "(Ljava/lang/String;)V"⟩ prog_11_method_2_code 2 none ∈ GW := tm3 (List.mem_of_getElem? (i := 68) rfl) rfl
theorem wL_IllegalStateException_7 : Cond.methodLink "java/lang/IllegalStateException" 7 ⟨"java/lang/RuntimeException", "<init>", "(Ljava/lang/String;)V"⟩ ∈ GW := tm3 (List.mem_of_getElem? (i := 69) rfl) rfl
theorem wY_IllegalStateException_depth : Cond.lays "java/lang/IllegalStateException" "java/lang/Throwable" "depth" "I" ∈ GW := tm3 (List.mem_of_getElem? (i := 70) rfl) rfl
theorem wL_X5_86 : Cond.methodLink RX5 86 yX0_add ∈ GW := tm3 (List.mem_of_getElem? (i := 72) rfl) rfl
theorem wI_X0_add : Cond.instanceMethod yX0_add ∈ GW := tm3 (List.mem_of_getElem? (i := 73) rfl) rfl
theorem wSe_X0_X0_add : Cond.selects RX0 yX0_add yX0_add ∈ GW := tm3 (List.mem_of_getElem? (i := 74) rfl) rfl
theorem wC_X0_add : Cond.code yX0_add cX0_add 6 (some .int) ∈ GW := tm3 (List.mem_of_getElem? (i := 75) rfl) rfl
theorem wLN_X0_59 : Cond.methodLinkNest RX0 59 yX5_isSlot RX5 ∈ lw_tbl := tm30 (List.mem_of_getElem? (i := 76) rfl)
theorem wN_L_23 : Cond.constant RL 23 (-2000002) ∈ GW := tm3 (List.mem_of_getElem? (i := 77) rfl) rfl
theorem wN_L_26 : Cond.constant RL 26 (-2000003) ∈ GW := tm3 (List.mem_of_getElem? (i := 78) rfl) rfl
theorem wL_L_123 : Cond.methodLink RL 123 yL_pays ∈ GW := tm3 (List.mem_of_getElem? (i := 79) rfl) rfl
theorem wS_L_pays : Cond.static yL_pays ∈ GW := tm3 (List.mem_of_getElem? (i := 80) rfl) rfl
theorem wC_L_pays : Cond.codeWith yL_pays cL_pays 4 (some .int) [(0, 6, 7, 21), (0, 6, 11, 14), (0, 6, 15, 24)] ∈ GW := tm3 (List.mem_of_getElem? (i := 81) rfl) rfl
theorem wL_L_27 : Cond.methodLink RL 27 yX5_pay ∈ GW := tm3 (List.mem_of_getElem? (i := 82) rfl) rfl
theorem wI_X5_pay : Cond.instanceMethod yX5_pay ∈ GW := tm3 (List.mem_of_getElem? (i := 83) rfl) rfl
theorem wSe_X5_X5_pay : Cond.selects RX5 yX5_pay yX5_pay ∈ GW := tm3 (List.mem_of_getElem? (i := 84) rfl) rfl
theorem wC_X5_pay : Cond.code yX5_pay cX5_pay 3 (some .int) ∈ GW := tm3 (List.mem_of_getElem? (i := 85) rfl) rfl
theorem wL_X5_103 : Cond.methodLink RX5 103 yX0_payPart ∈ GW := tm3 (List.mem_of_getElem? (i := 88) rfl) rfl
theorem wI_X0_payPart : Cond.instanceMethod yX0_payPart ∈ GW := tm3 (List.mem_of_getElem? (i := 89) rfl) rfl
theorem wSe_X0_X0_payPart : Cond.selects RX0 yX0_payPart yX0_payPart ∈ GW := tm3 (List.mem_of_getElem? (i := 90) rfl) rfl
theorem wC_X0_payPart : Cond.code yX0_payPart cX0_payPart 3 none ∈ GW := tm3 (List.mem_of_getElem? (i := 91) rfl) rfl
theorem wL_X0_63 : Cond.methodLink RX0 63 yX0_holds ∈ GW := tm3 (List.mem_of_getElem? (i := 92) rfl) rfl
theorem wL_L_126 : Cond.methodLink RL 126 yL_disputes ∈ GW := tm3 (List.mem_of_getElem? (i := 93) rfl) rfl
theorem wS_L_disputes : Cond.static yL_disputes ∈ GW := tm3 (List.mem_of_getElem? (i := 94) rfl) rfl
theorem wC_L_disputes : Cond.codeWith yL_disputes cL_disputes 3 (some .int) [(0, 5, 6, 21), (0, 5, 10, 24)] ∈ GW := tm3 (List.mem_of_getElem? (i := 95) rfl) rfl
theorem wL_L_31 : Cond.methodLink RL 31 yX5_dispute ∈ GW := tm3 (List.mem_of_getElem? (i := 96) rfl) rfl
theorem wI_X5_dispute : Cond.instanceMethod yX5_dispute ∈ GW := tm3 (List.mem_of_getElem? (i := 97) rfl) rfl
theorem wSe_X5_X5_dispute : Cond.selects RX5 yX5_dispute yX5_dispute ∈ GW := tm3 (List.mem_of_getElem? (i := 98) rfl) rfl
theorem wC_X5_dispute : Cond.code yX5_dispute cX5_dispute 3 (some .int) ∈ GW := tm3 (List.mem_of_getElem? (i := 99) rfl) rfl
theorem wL_X5_107 : Cond.methodLink RX5 107 yX0_canBeDisputed ∈ GW := tm3 (List.mem_of_getElem? (i := 100) rfl) rfl
theorem wI_X0_canBeDisputed : Cond.instanceMethod yX0_canBeDisputed ∈ GW := tm3 (List.mem_of_getElem? (i := 101) rfl) rfl
theorem wSe_X0_X0_canBeDisputed : Cond.selects RX0 yX0_canBeDisputed yX0_canBeDisputed ∈ GW := tm3 (List.mem_of_getElem? (i := 102) rfl) rfl
theorem wC_X0_canBeDisputed : Cond.code yX0_canBeDisputed cX0_canBeDisputed 2 (some .boolean) ∈ GW := tm3 (List.mem_of_getElem? (i := 103) rfl) rfl
theorem wL_X0_66 : Cond.methodLink RX0 66 yX0_isOwing ∈ GW := tm3 (List.mem_of_getElem? (i := 104) rfl) rfl
theorem wL_L_129 : Cond.methodLink RL 129 yL_settles ∈ GW := tm3 (List.mem_of_getElem? (i := 106) rfl) rfl
theorem wS_L_settles : Cond.static yL_settles ∈ GW := tm3 (List.mem_of_getElem? (i := 107) rfl) rfl
theorem wC_L_settles : Cond.codeWith yL_settles cL_settles 3 (some .int) [(0, 5, 6, 21), (0, 5, 10, 24)] ∈ GW := tm3 (List.mem_of_getElem? (i := 108) rfl) rfl
theorem wL_L_34 : Cond.methodLink RL 34 yX5_settle ∈ GW := tm3 (List.mem_of_getElem? (i := 109) rfl) rfl
theorem wI_X5_settle : Cond.instanceMethod yX5_settle ∈ GW := tm3 (List.mem_of_getElem? (i := 110) rfl) rfl
theorem wSe_X5_X5_settle : Cond.selects RX5 yX5_settle yX5_settle ∈ GW := tm3 (List.mem_of_getElem? (i := 111) rfl) rfl
theorem wC_X5_settle : Cond.code yX5_settle cX5_settle 2 (some .int) ∈ GW := tm3 (List.mem_of_getElem? (i := 112) rfl) rfl
theorem wL_L_104 : Cond.methodLink RL 104 yL_discharges ∈ GW := tm3 (List.mem_of_getElem? (i := 114) rfl) rfl
theorem wS_L_discharges : Cond.static yL_discharges ∈ GW := tm3 (List.mem_of_getElem? (i := 115) rfl) rfl
theorem wC_L_discharges : Cond.codeWith yL_discharges cL_discharges 4 (some .int) [(0, 6, 7, 21), (0, 6, 11, 14), (0, 6, 15, 24)] ∈ GW := tm3 (List.mem_of_getElem? (i := 116) rfl) rfl
theorem wL_L_37 : Cond.methodLink RL 37 yX5_discharge ∈ GW := tm3 (List.mem_of_getElem? (i := 117) rfl) rfl
theorem wI_X5_discharge : Cond.instanceMethod yX5_discharge ∈ GW := tm3 (List.mem_of_getElem? (i := 118) rfl) rfl
theorem wSe_X5_X5_discharge : Cond.selects RX5 yX5_discharge yX5_discharge ∈ GW := tm3 (List.mem_of_getElem? (i := 119) rfl) rfl
theorem wC_X5_discharge : Cond.code yX5_discharge cX5_discharge 3 (some .int) ∈ GW := tm3 (List.mem_of_getElem? (i := 120) rfl) rfl
theorem wL_X5_126 : Cond.methodLink RX5 126 yX4_roomAt ∈ GW := tm3 (List.mem_of_getElem? (i := 123) rfl) rfl
theorem wL_X5_132 : Cond.methodLink RX5 132 yX4_releaseAround ∈ GW := tm3 (List.mem_of_getElem? (i := 125) rfl) rfl
theorem wI_X4_releaseAround : Cond.instanceMethod yX4_releaseAround ∈ GW := tm3 (List.mem_of_getElem? (i := 126) rfl) rfl
theorem wSe_X4_X4_releaseAround : Cond.selects RX4 yX4_releaseAround yX4_releaseAround ∈ GW := tm3 (List.mem_of_getElem? (i := 127) rfl) rfl
theorem wC_X4_releaseAround : Cond.code yX4_releaseAround cX4_releaseAround 7 (some .int) ∈ GW := tm3 (List.mem_of_getElem? (i := 128) rfl) rfl
theorem wL_X4_75 : Cond.methodLink RX4 75 yX1_releaseFrom ∈ GW := tm3 (List.mem_of_getElem? (i := 129) rfl) rfl
theorem wI_X1_releaseFrom : Cond.instanceMethod yX1_releaseFrom ∈ GW := tm3 (List.mem_of_getElem? (i := 130) rfl) rfl
theorem wSe_X1_X1_releaseFrom : Cond.selects RX1 yX1_releaseFrom yX1_releaseFrom ∈ GW := tm3 (List.mem_of_getElem? (i := 131) rfl) rfl
theorem wC_X1_releaseFrom : Cond.code yX1_releaseFrom cX1_releaseFrom 8 none ∈ GW := tm3 (List.mem_of_getElem? (i := 132) rfl) rfl
theorem wL_X1_57 : Cond.methodLink RX1 57 yX0_releasePart ∈ GW := tm3 (List.mem_of_getElem? (i := 133) rfl) rfl
theorem wI_X0_releasePart : Cond.instanceMethod yX0_releasePart ∈ GW := tm3 (List.mem_of_getElem? (i := 134) rfl) rfl
theorem wSe_X0_X0_releasePart : Cond.selects RX0 yX0_releasePart yX0_releasePart ∈ GW := tm3 (List.mem_of_getElem? (i := 135) rfl) rfl
theorem wC_X0_releasePart : Cond.code yX0_releasePart cX0_releasePart 3 none ∈ GW := tm3 (List.mem_of_getElem? (i := 136) rfl) rfl
theorem wL_L_132 : Cond.methodLink RL 132 yL_bests ∈ GW := tm3 (List.mem_of_getElem? (i := 137) rfl) rfl
theorem wS_L_bests : Cond.static yL_bests ∈ GW := tm3 (List.mem_of_getElem? (i := 138) rfl) rfl
theorem wC_L_bests : Cond.codeWith yL_bests cL_bests 2 (some .int) [(0, 4, 5, 24)] ∈ GW := tm3 (List.mem_of_getElem? (i := 139) rfl) rfl
theorem wL_L_40 : Cond.methodLink RL 40 yX5_dischargeBest ∈ GW := tm3 (List.mem_of_getElem? (i := 140) rfl) rfl
theorem wI_X5_dischargeBest : Cond.instanceMethod yX5_dischargeBest ∈ GW := tm3 (List.mem_of_getElem? (i := 141) rfl) rfl
theorem wSe_X5_X5_dischargeBest : Cond.selects RX5 yX5_dischargeBest yX5_dischargeBest ∈ GW := tm3 (List.mem_of_getElem? (i := 142) rfl) rfl
theorem wC_X5_dischargeBest : Cond.code yX5_dischargeBest cX5_dischargeBest 1 (some .int) ∈ GW := tm3 (List.mem_of_getElem? (i := 143) rfl) rfl
theorem wL_X5_138 : Cond.methodLink RX5 138 yX4_releaseBest ∈ GW := tm3 (List.mem_of_getElem? (i := 145) rfl) rfl
theorem wI_X4_releaseBest : Cond.instanceMethod yX4_releaseBest ∈ GW := tm3 (List.mem_of_getElem? (i := 146) rfl) rfl
theorem wSe_X4_X4_releaseBest : Cond.selects RX4 yX4_releaseBest yX4_releaseBest ∈ GW := tm3 (List.mem_of_getElem? (i := 147) rfl) rfl
theorem wC_X4_releaseBest : Cond.code yX4_releaseBest cX4_releaseBest 3 (some .int) ∈ GW := tm3 (List.mem_of_getElem? (i := 148) rfl) rfl
theorem wL_X4_84 : Cond.methodLink RX4 84 yX4_best ∈ GW := tm3 (List.mem_of_getElem? (i := 149) rfl) rfl
theorem wL_X4_88 : Cond.methodLink RX4 88 yX4_releaseAround ∈ GW := tm3 (List.mem_of_getElem? (i := 150) rfl) rfl
theorem wL_L_73 : Cond.methodLink RL 73 yL_promiseOf ∈ GW := tm3 (List.mem_of_getElem? (i := 151) rfl) rfl
theorem wS_L_promiseOf : Cond.static yL_promiseOf ∈ GW := tm3 (List.mem_of_getElem? (i := 152) rfl) rfl
theorem wC_L_promiseOf : Cond.codeWith yL_promiseOf cL_promiseOf 4 (some .int) [(0, 6, 7, 21), (0, 6, 11, 14)] ∈ GW := tm3 (List.mem_of_getElem? (i := 153) rfl) rfl
theorem wL_L_44 : Cond.methodLink RL 44 yX5_promiseOf ∈ GW := tm3 (List.mem_of_getElem? (i := 154) rfl) rfl
theorem wL_L_78 : Cond.methodLink RL 78 yL_net ∈ GW := tm3 (List.mem_of_getElem? (i := 155) rfl) rfl
theorem wS_L_net : Cond.static yL_net ∈ GW := tm3 (List.mem_of_getElem? (i := 156) rfl) rfl
theorem wC_L_net : Cond.codeWith yL_net cL_net 3 (some .int) [(0, 5, 6, 21)] ∈ GW := tm3 (List.mem_of_getElem? (i := 157) rfl) rfl
theorem wL_L_50 : Cond.methodLink RL 50 yX5_net ∈ GW := tm3 (List.mem_of_getElem? (i := 158) rfl) rfl
theorem wI_X5_net : Cond.instanceMethod yX5_net ∈ GW := tm3 (List.mem_of_getElem? (i := 159) rfl) rfl
theorem wSe_X5_X5_net : Cond.selects RX5 yX5_net yX5_net ∈ GW := tm3 (List.mem_of_getElem? (i := 160) rfl) rfl
theorem wC_X5_net : Cond.code yX5_net cX5_net 2 (some .int) ∈ GW := tm3 (List.mem_of_getElem? (i := 161) rfl) rfl
theorem wL_L_80 : Cond.methodLink RL 80 yL_ring ∈ GW := tm3 (List.mem_of_getElem? (i := 162) rfl) rfl
theorem wS_L_ring : Cond.static yL_ring ∈ GW := tm3 (List.mem_of_getElem? (i := 163) rfl) rfl
theorem wC_L_ring : Cond.codeWith yL_ring cL_ring 4 (some .int) [(0, 6, 7, 21), (0, 6, 11, 14)] ∈ GW := tm3 (List.mem_of_getElem? (i := 164) rfl) rfl
theorem wL_L_53 : Cond.methodLink RL 53 yX5_ring ∈ GW := tm3 (List.mem_of_getElem? (i := 165) rfl) rfl
theorem wI_X5_ring : Cond.instanceMethod yX5_ring ∈ GW := tm3 (List.mem_of_getElem? (i := 166) rfl) rfl
theorem wSe_X5_X5_ring : Cond.selects RX5 yX5_ring yX5_ring ∈ GW := tm3 (List.mem_of_getElem? (i := 167) rfl) rfl
theorem wC_X5_ring : Cond.code yX5_ring cX5_ring 3 (some .int) ∈ GW := tm3 (List.mem_of_getElem? (i := 168) rfl) rfl
theorem wL_X5_174 : Cond.methodLink RX5 174 yX4_partyAt ∈ GW := tm3 (List.mem_of_getElem? (i := 170) rfl) rfl
theorem wI_X4_partyAt : Cond.instanceMethod yX4_partyAt ∈ GW := tm3 (List.mem_of_getElem? (i := 171) rfl) rfl
theorem wSe_X4_X4_partyAt : Cond.selects RX4 yX4_partyAt yX4_partyAt ∈ GW := tm3 (List.mem_of_getElem? (i := 172) rfl) rfl
theorem wC_X4_partyAt : Cond.code yX4_partyAt cX4_partyAt 3 (some .int) ∈ GW := tm3 (List.mem_of_getElem? (i := 173) rfl) rfl
theorem wL_L_68 : Cond.methodLink RL 68 yL_value ∈ GW := tm3 (List.mem_of_getElem? (i := 174) rfl) rfl
theorem wS_L_value : Cond.static yL_value ∈ GW := tm3 (List.mem_of_getElem? (i := 175) rfl) rfl
theorem wC_L_value : Cond.codeWith yL_value cL_value 3 (some .int) [(0, 5, 6, 14)] ∈ GW := tm3 (List.mem_of_getElem? (i := 176) rfl) rfl
theorem wL_L_59 : Cond.methodLink RL 59 yX5_value ∈ GW := tm3 (List.mem_of_getElem? (i := 177) rfl) rfl
theorem wL_L_85 : Cond.methodLink RL 85 yL_saving ∈ GW := tm3 (List.mem_of_getElem? (i := 178) rfl) rfl
theorem wS_L_saving : Cond.static yL_saving ∈ GW := tm3 (List.mem_of_getElem? (i := 179) rfl) rfl
theorem wC_L_saving : Cond.codeWith yL_saving cL_saving 3 (some .int) [(0, 5, 6, 21)] ∈ GW := tm3 (List.mem_of_getElem? (i := 180) rfl) rfl
theorem wL_L_62 : Cond.methodLink RL 62 yX5_saving ∈ GW := tm3 (List.mem_of_getElem? (i := 181) rfl) rfl
theorem wI_X5_saving : Cond.instanceMethod yX5_saving ∈ GW := tm3 (List.mem_of_getElem? (i := 182) rfl) rfl
theorem wSe_X5_X5_saving : Cond.selects RX5 yX5_saving yX5_saving ∈ GW := tm3 (List.mem_of_getElem? (i := 183) rfl) rfl
theorem wC_X5_saving : Cond.code yX5_saving cX5_saving 2 (some .int) ∈ GW := tm3 (List.mem_of_getElem? (i := 184) rfl) rfl
theorem wL_X5_206 : Cond.methodLink RX5 206 yX4_savingAt ∈ GW := tm3 (List.mem_of_getElem? (i := 185) rfl) rfl
theorem wL_L_145 : Cond.methodLink RL 145 yL_undoes ∈ GW := tm3 (List.mem_of_getElem? (i := 186) rfl) rfl
theorem wS_L_undoes : Cond.static yL_undoes ∈ GW := tm3 (List.mem_of_getElem? (i := 187) rfl) rfl
theorem wC_L_undoes : Cond.codeWith yL_undoes cL_undoes 2 (some .int) [(0, 4, 5, 24)] ∈ GW := tm3 (List.mem_of_getElem? (i := 188) rfl) rfl
theorem wL_L_65 : Cond.methodLink RL 65 yX5_undo ∈ GW := tm3 (List.mem_of_getElem? (i := 189) rfl) rfl
theorem wI_X5_undo : Cond.instanceMethod yX5_undo ∈ GW := tm3 (List.mem_of_getElem? (i := 190) rfl) rfl
theorem wSe_X5_X5_undo : Cond.selects RX5 yX5_undo yX5_undo ∈ GW := tm3 (List.mem_of_getElem? (i := 191) rfl) rfl
theorem wC_X5_undo : Cond.code yX5_undo cX5_undo 2 (some .int) ∈ GW := tm3 (List.mem_of_getElem? (i := 192) rfl) rfl
theorem wL_L_108 : Cond.methodLink RL 108 yL_holds ∈ GW := tm3 (List.mem_of_getElem? (i := 194) rfl) rfl
theorem wS_L_holds : Cond.static yL_holds ∈ GW := tm3 (List.mem_of_getElem? (i := 195) rfl) rfl
theorem wC_L_holds : Cond.code yL_holds cL_holds 4 (some .boolean) ∈ GW := tm3 (List.mem_of_getElem? (i := 196) rfl) rfl
theorem wL_L_87 : Cond.methodLink RL 87 yL_promisesHold ∈ GW := tm3 (List.mem_of_getElem? (i := 197) rfl) rfl
theorem wS_L_promisesHold : Cond.static yL_promisesHold ∈ GW := tm3 (List.mem_of_getElem? (i := 198) rfl) rfl
theorem wC_L_promisesHold : Cond.code yL_promisesHold cL_promisesHold 10 (some .boolean) ∈ GW := tm3 (List.mem_of_getElem? (i := 199) rfl) rfl
theorem wL_L_91 : Cond.methodLink RL 91 yL_debtsHold ∈ GW := tm3 (List.mem_of_getElem? (i := 200) rfl) rfl
theorem wS_L_debtsHold : Cond.static yL_debtsHold ∈ GW := tm3 (List.mem_of_getElem? (i := 201) rfl) rfl
theorem wC_L_debtsHold : Cond.code yL_debtsHold cL_debtsHold 10 (some .boolean) ∈ GW := tm3 (List.mem_of_getElem? (i := 202) rfl) rfl
theorem wL_L_76 : Cond.methodLink RL 76 yL_debt ∈ GW := tm3 (List.mem_of_getElem? (i := 203) rfl) rfl
theorem wS_L_debt : Cond.static yL_debt ∈ GW := tm3 (List.mem_of_getElem? (i := 204) rfl) rfl
theorem wC_L_debt : Cond.codeWith yL_debt cL_debt 4 (some .int) [(0, 6, 7, 21)] ∈ GW := tm3 (List.mem_of_getElem? (i := 205) rfl) rfl
theorem wL_L_47 : Cond.methodLink RL 47 yX5_debt ∈ GW := tm3 (List.mem_of_getElem? (i := 206) rfl) rfl
theorem wI_X5_debt : Cond.instanceMethod yX5_debt ∈ GW := tm3 (List.mem_of_getElem? (i := 207) rfl) rfl
theorem wSe_X5_X5_debt : Cond.selects RX5 yX5_debt yX5_debt ∈ GW := tm3 (List.mem_of_getElem? (i := 208) rfl) rfl
theorem wC_X5_debt : Cond.code yX5_debt cX5_debt 3 (some .int) ∈ GW := tm3 (List.mem_of_getElem? (i := 209) rfl) rfl
theorem wL_L_94 : Cond.methodLink RL 94 yL_isRing ∈ GW := tm3 (List.mem_of_getElem? (i := 210) rfl) rfl
theorem wS_L_isRing : Cond.static yL_isRing ∈ GW := tm3 (List.mem_of_getElem? (i := 211) rfl) rfl
theorem wC_L_isRing : Cond.code yL_isRing cL_isRing 8 (some .boolean) ∈ GW := tm3 (List.mem_of_getElem? (i := 212) rfl) rfl
theorem wN_L_82 : Cond.constant RL 82 40001 ∈ GW := tm3 (List.mem_of_getElem? (i := 213) rfl) rfl
theorem wL_L_83 : Cond.methodLink RL 83 yL_room ∈ GW := tm3 (List.mem_of_getElem? (i := 214) rfl) rfl
theorem wS_L_room : Cond.static yL_room ∈ GW := tm3 (List.mem_of_getElem? (i := 215) rfl) rfl
theorem wC_L_room : Cond.codeWith yL_room cL_room 3 (some .int) [(0, 5, 6, 21)] ∈ GW := tm3 (List.mem_of_getElem? (i := 216) rfl) rfl
theorem wL_L_56 : Cond.methodLink RL 56 yX5_room ∈ GW := tm3 (List.mem_of_getElem? (i := 217) rfl) rfl
theorem wI_X5_room : Cond.instanceMethod yX5_room ∈ GW := tm3 (List.mem_of_getElem? (i := 218) rfl) rfl
theorem wSe_X5_X5_room : Cond.selects RX5 yX5_room yX5_room ∈ GW := tm3 (List.mem_of_getElem? (i := 219) rfl) rfl
theorem wC_X5_room : Cond.code yX5_room cX5_room 2 (some .int) ∈ GW := tm3 (List.mem_of_getElem? (i := 220) rfl) rfl
theorem wL_L_98 : Cond.methodLink RL 98 yL_isAhead ∈ GW := tm3 (List.mem_of_getElem? (i := 221) rfl) rfl
theorem wS_L_isAhead : Cond.static yL_isAhead ∈ GW := tm3 (List.mem_of_getElem? (i := 222) rfl) rfl
theorem wC_L_isAhead : Cond.code yL_isAhead cL_isAhead 3 (some .boolean) ∈ GW := tm3 (List.mem_of_getElem? (i := 223) rfl) rfl
theorem wL_L_136 : Cond.methodLink RL 136 yL_dischargesOne ∈ GW := tm3 (List.mem_of_getElem? (i := 224) rfl) rfl
theorem wS_L_dischargesOne : Cond.static yL_dischargesOne ∈ GW := tm3 (List.mem_of_getElem? (i := 225) rfl) rfl
theorem wC_L_dischargesOne : Cond.code yL_dischargesOne cL_dischargesOne 14 (some .boolean) ∈ GW := tm3 (List.mem_of_getElem? (i := 226) rfl) rfl
theorem wN_L_118 : Cond.constant RL 118 32768 ∈ GW := tm3 (List.mem_of_getElem? (i := 227) rfl) rfl
theorem wN_L_144 : Cond.constant RL 144 (-2000000) ∈ GW := tm3 (List.mem_of_getElem? (i := 228) rfl) rfl
theorem wSe_X1_X1_putFirst : Cond.selects RX1 yX1_putFirst yX1_putFirst ∈ GW := tmP (List.mem_of_getElem? (i := 0) rfl) rfl
theorem wSe_X4_X4_addRow : Cond.selects RX4 yX4_addRow yX4_addRow ∈ GW := tmP (List.mem_of_getElem? (i := 1) rfl) rfl
theorem wSe_X4_X4_rowAt : Cond.selects RX4 yX4_rowAt yX4_rowAt ∈ GW := tmP (List.mem_of_getElem? (i := 2) rfl) rfl
theorem wSe_X5_X5_countRings : Cond.selects RX5 yX5_countRings yX5_countRings ∈ GW := tmP (List.mem_of_getElem? (i := 3) rfl) rfl
theorem wSe_X3_X3_start : Cond.selects RX3 yX3_start yX3_start ∈ GW := tmP (List.mem_of_getElem? (i := 5) rfl) rfl
theorem wSe_X3_X3_addExcess : Cond.selects RX3 yX3_addExcess yX3_addExcess ∈ GW := tmP (List.mem_of_getElem? (i := 6) rfl) rfl
theorem wSe_X3_X3_measure : Cond.selects RX3 yX3_measure yX3_measure ∈ GW := tmP (List.mem_of_getElem? (i := 7) rfl) rfl
theorem wSe_X3_X3_shorten : Cond.selects RX3 yX3_shorten yX3_shorten ∈ GW := tmP (List.mem_of_getElem? (i := 8) rfl) rfl
theorem wSe_X3_X3_reach : Cond.selects RX3 yX3_reach yX3_reach ∈ GW := tmP (List.mem_of_getElem? (i := 9) rfl) rfl
theorem wSe_X3_X3_nearestEnd : Cond.selects RX3 yX3_nearestEnd yX3_nearestEnd ∈ GW := tmP (List.mem_of_getElem? (i := 10) rfl) rfl
theorem wSe_X3_X3_push : Cond.selects RX3 yX3_push yX3_push ∈ GW := tmP (List.mem_of_getElem? (i := 11) rfl) rfl
theorem wSe_X3_X3_originOf : Cond.selects RX3 yX3_originOf yX3_originOf ∈ GW := tmP (List.mem_of_getElem? (i := 12) rfl) rfl
theorem wSe_X3_X3_promiseTo : Cond.selects RX3 yX3_promiseTo yX3_promiseTo ∈ GW := tmP (List.mem_of_getElem? (i := 13) rfl) rfl
theorem wSe_X3_X3_before : Cond.selects RX3 yX3_before yX3_before ∈ GW := tmP (List.mem_of_getElem? (i := 14) rfl) rfl
theorem wSe_X3_X3_widthTo : Cond.selects RX3 yX3_widthTo yX3_widthTo ∈ GW := tmP (List.mem_of_getElem? (i := 15) rfl) rfl
theorem wSe_X3_X3_costThatStays : Cond.selects RX3 yX3_costThatStays yX3_costThatStays ∈ GW := tmP (List.mem_of_getElem? (i := 16) rfl) rfl
theorem wSe_X5_X5_save : Cond.selects RX5 yX5_save yX5_save ∈ GW := tmP (List.mem_of_getElem? (i := 17) rfl) rfl
theorem wSe_X5_X5_dropOldest : Cond.selects RX5 yX5_dropOldest yX5_dropOldest ∈ GW := tmP (List.mem_of_getElem? (i := 18) rfl) rfl
theorem wU_X0 : ∀ w ∈ u_ws RX0 TX0 13, w ∈ GW := (List.forall_mem_cons.mpr ⟨wY_X0_parties, (List.forall_mem_cons.mpr ⟨wY_X0_count, (List.forall_mem_cons.mpr ⟨wY_X0_payments, (List.forall_mem_cons.mpr ⟨wY_X0_releases, (List.forall_mem_cons.mpr ⟨wY_X0_discharges, (List.forall_mem_cons.mpr ⟨wY_X0_from, (List.forall_mem_cons.mpr ⟨wY_X0_to, (List.forall_mem_cons.mpr ⟨wY_X0_amount, (List.forall_mem_cons.mpr ⟨wY_X0_rate, (List.forall_mem_cons.mpr ⟨wY_X0_amountAtFirst, (List.forall_mem_cons.mpr ⟨wY_X0_paid, (List.forall_mem_cons.mpr ⟨wY_X0_released, (List.forall_mem_cons.mpr ⟨wY_X0_disputed, (fun _ h => absurd h List.not_mem_nil)⟩)⟩)⟩)⟩)⟩)⟩)⟩)⟩)⟩)⟩)⟩)⟩)⟩)
theorem wU_X1 : ∀ w ∈ u_ws RX1 TX1 3, w ∈ GW := (List.forall_mem_cons.mpr ⟨wY_X1_sum, (List.forall_mem_cons.mpr ⟨wY_X1_firstOf, (List.forall_mem_cons.mpr ⟨wY_X1_nextOf, (fun _ h => absurd h List.not_mem_nil)⟩)⟩)⟩)
theorem wU_X2 : ∀ w ∈ u_ws RX2 TX2 10, w ∈ GW := (List.forall_mem_cons.mpr ⟨wY_X2_bytes, (List.forall_mem_cons.mpr ⟨wY_X2_length, (List.forall_mem_cons.mpr ⟨wY_X2_at, (List.forall_mem_cons.mpr ⟨wY_X2_errorAt, (List.forall_mem_cons.mpr ⟨wY_X2_sign, (List.forall_mem_cons.mpr ⟨wY_X2_from, (List.forall_mem_cons.mpr ⟨wY_X2_to, (List.forall_mem_cons.mpr ⟨wY_X2_amount, (List.forall_mem_cons.mpr ⟨wY_X2_rate, (List.forall_mem_cons.mpr ⟨wY_X2_number, (fun _ h => absurd h List.not_mem_nil)⟩)⟩)⟩)⟩)⟩)⟩)⟩)⟩)⟩)⟩)
theorem wU_X3 : ∀ w ∈ u_ws RX3 TX3 4, w ∈ GW := (List.forall_mem_cons.mpr ⟨wY_X3_stays, (List.forall_mem_cons.mpr ⟨wY_X3_excess, (List.forall_mem_cons.mpr ⟨wY_X3_distance, (List.forall_mem_cons.mpr ⟨wY_X3_reachedBy, (fun _ h => absurd h List.not_mem_nil)⟩)⟩)⟩)⟩)
theorem wU_X4 : ∀ w ∈ u_ws RX4 TX4 4, w ∈ GW := (List.forall_mem_cons.mpr ⟨wY_X4_debts, (List.forall_mem_cons.mpr ⟨wY_X4_rows, (List.forall_mem_cons.mpr ⟨wY_X4_through, (List.forall_mem_cons.mpr ⟨wY_X4_size, (fun _ h => absurd h List.not_mem_nil)⟩)⟩)⟩)⟩)
theorem wU_X5 : ∀ w ∈ u_ws RX5 TX5 7, w ∈ GW := (List.forall_mem_cons.mpr ⟨wY_X5_book, (List.forall_mem_cons.mpr ⟨wY_X5_trial, (List.forall_mem_cons.mpr ⟨wY_X5_rings, (List.forall_mem_cons.mpr ⟨wY_X5_remainder, (List.forall_mem_cons.mpr ⟨wY_X5_orders, (List.forall_mem_cons.mpr ⟨wY_X5_saved, (List.forall_mem_cons.mpr ⟨wY_X5_savedCount, (fun _ h => absurd h List.not_mem_nil)⟩)⟩)⟩)⟩)⟩)⟩)⟩)
