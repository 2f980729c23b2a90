/-! the words, by their places in the tables -/
def GW : List Cond := lw_tbl.filter goodWord
theorem gw_of {w : Cond} (h : w ∈ lw_tbl) (g : goodWord w = true) : w ∈ GW := List.mem_filter.mpr ⟨h, g⟩
theorem tm10 {w : Cond} (h : w ∈ tables_1_1) : w ∈ lw_tbl := List.mem_append_right _ (List.mem_append_left _ h)
theorem tm1 {w : Cond} (h : w ∈ tables_1_1) (g : goodWord w = true) : w ∈ GW := gw_of (tm10 h) g
theorem tm20 {w : Cond} (h : w ∈ tables_1_2) : w ∈ lw_tbl := List.mem_append_right _ (List.mem_append_right _ (List.mem_append_left _ h))
theorem tm2 {w : Cond} (h : w ∈ tables_1_2) (g : goodWord w = true) : w ∈ GW := gw_of (tm20 h) g
theorem tm30 {w : Cond} (h : w ∈ tables_1_3) : w ∈ lw_tbl := List.mem_append_right _ (List.mem_append_right _ (List.mem_append_right _ (List.mem_append_left _ h)))
theorem tm3 {w : Cond} (h : w ∈ tables_1_3) (g : goodWord w = true) : w ∈ GW := gw_of (tm30 h) g
theorem tm40 {w : Cond} (h : w ∈ tables_1_4) : w ∈ lw_tbl := List.mem_append_right _ (List.mem_append_right _ (List.mem_append_right _ (List.mem_append_right _ (List.mem_append_left _ h))))
theorem tm4 {w : Cond} (h : w ∈ tables_1_4) (g : goodWord w = true) : w ∈ GW := gw_of (tm40 h) g
theorem tm50 {w : Cond} (h : w ∈ tables_1_5) : w ∈ lw_tbl := List.mem_append_right _ (List.mem_append_right _ (List.mem_append_right _ (List.mem_append_right _ (List.mem_append_right _ (List.mem_append_left _ h)))))
theorem tm5 {w : Cond} (h : w ∈ tables_1_5) (g : goodWord w = true) : w ∈ GW := gw_of (tm50 h) g
theorem tm60 {w : Cond} (h : w ∈ tables_1_6) : w ∈ lw_tbl := List.mem_append_right _ (List.mem_append_right _ (List.mem_append_right _ (List.mem_append_right _ (List.mem_append_right _ (List.mem_append_right _ h)))))
theorem tm6 {w : Cond} (h : w ∈ tables_1_6) (g : goodWord w = true) : w ∈ GW := gw_of (tm60 h) g
theorem tmP {w : Cond} (h : w ∈ k2_sels lw_privs) (g : goodWord w = true) : w ∈ GW := gw_of (List.mem_append_left _ h) g
theorem wIn_L : Cond.initialized RL ∈ GW := tm1 (List.mem_of_getElem? (i := 0) rfl) rfl
theorem wIn_X5 : Cond.initialized RX5 ∈ GW := tm1 (List.mem_of_getElem? (i := 1) rfl) rfl
theorem wIn_X0 : Cond.initialized RX0 ∈ GW := tm1 (List.mem_of_getElem? (i := 2) rfl) rfl
theorem wIn_X4 : Cond.initialized RX4 ∈ GW := tm1 (List.mem_of_getElem? (i := 3) rfl) rfl
theorem wIn_X1 : Cond.initialized RX1 ∈ GW := tm1 (List.mem_of_getElem? (i := 4) rfl) rfl
theorem wIn_X3 : Cond.initialized RX3 ∈ GW := tm1 (List.mem_of_getElem? (i := 5) rfl) rfl
theorem wIn_X2 : Cond.initialized RX2 ∈ GW := tm1 (List.mem_of_getElem? (i := 6) rfl) rfl
theorem wIn_X6 : Cond.initialized RX6 ∈ GW := tm1 (List.mem_of_getElem? (i := 7) rfl) rfl
theorem wIn_Throwable : Cond.initialized "java/lang/Throwable" ∈ GW := tm1 (List.mem_of_getElem? (i := 8) rfl) rfl
theorem wIn_Exception : Cond.initialized "java/lang/Exception" ∈ GW := tm1 (List.mem_of_getElem? (i := 9) rfl) rfl
theorem wIn_RuntimeException : Cond.initialized "java/lang/RuntimeException" ∈ GW := tm1 (List.mem_of_getElem? (i := 10) rfl) rfl
theorem wIn_IllegalArgumentException : Cond.initialized "java/lang/IllegalArgumentException" ∈ GW := tm1 (List.mem_of_getElem? (i := 11) rfl) rfl
theorem wIn_J10 : Cond.initialized RJ10 ∈ GW := tm1 (List.mem_of_getElem? (i := 12) rfl) rfl
theorem wIn_IndexOutOfBoundsException : Cond.initialized "java/lang/IndexOutOfBoundsException" ∈ GW := tm1 (List.mem_of_getElem? (i := 13) rfl) rfl
theorem wIn_IllegalStateException : Cond.initialized "java/lang/IllegalStateException" ∈ GW := tm1 (List.mem_of_getElem? (i := 14) rfl) rfl
theorem wIn_J9 : Cond.initialized RJ9 ∈ GW := tm1 (List.mem_of_getElem? (i := 15) rfl) rfl
theorem wK_L_8 : Cond.classLink RL 8 RX5 ∈ GW := tm1 (List.mem_of_getElem? (i := 16) rfl) rfl
theorem wIb_X5 : Cond.instantiable RX5 7 ∈ GW := tm1 (List.mem_of_getElem? (i := 17) rfl) rfl
theorem wL_L_73 : Cond.methodLink RL 73 yX5_init ∈ GW := tm1 (List.mem_of_getElem? (i := 18) rfl) rfl
theorem wI_X5_init : Cond.instanceMethod yX5_init ∈ GW := tm1 (List.mem_of_getElem? (i := 19) rfl) rfl
theorem wC_X5_init : Cond.code yX5_init cX5_init 1 none ∈ GW := tm1 (List.mem_of_getElem? (i := 20) rfl) rfl
theorem wL_X5_3 : Cond.methodLink RX5 3 ⟨"java/lang/Object", "<init>", "()V"⟩ ∈ GW := tm1 (List.mem_of_getElem? (i := 21) rfl) rfl
theorem wI_Object__init___V : Cond.instanceMethod ⟨"java/lang/Object", "<init>", "()V"⟩ ∈ GW := tm1 (List.mem_of_getElem? (i := 22) rfl) rfl
theorem wC_Object__init___V : Cond.code ⟨"java/lang/Object", "<init>", "()V"⟩ object_method_1_code 1 none ∈ GW := tm1 (List.mem_of_getElem? (i := 23) rfl) rfl
theorem wK_X5_9 : Cond.classLink RX5 9 RX0 ∈ GW := tm1 (List.mem_of_getElem? (i := 24) rfl) rfl
theorem wIb_X0 : Cond.instantiable RX0 13 ∈ GW := tm1 (List.mem_of_getElem? (i := 25) rfl) rfl
theorem wLN_X5_11 : Cond.methodLinkNest RX5 11 yX0_init RX5 ∈ lw_tbl := tm10 (List.mem_of_getElem? (i := 26) rfl)
theorem wI_X0_init : Cond.instanceMethod yX0_init ∈ GW := tm1 (List.mem_of_getElem? (i := 27) rfl) rfl
theorem wC_X0_init : Cond.code yX0_init cX0_init 1 none ∈ GW := tm1 (List.mem_of_getElem? (i := 28) rfl) rfl
theorem wL_X0_3 : Cond.methodLink RX0 3 ⟨"java/lang/Object", "<init>", "()V"⟩ ∈ GW := tm1 (List.mem_of_getElem? (i := 29) rfl) rfl
theorem wF_X0_9 : Cond.fieldLink RX0 9 "PledgeRings$Book" "parties" "I" ∈ GW := tm1 (List.mem_of_getElem? (i := 30) rfl) rfl
theorem wFN_X5_177 : Cond.fieldLinkNest RX5 177 "PledgeRings$Book" "parties" "I" RX5 ∈ lw_tbl := tm10 (List.mem_of_getElem? (i := 31) rfl)
theorem wF_X0_41 : Cond.fieldLink RX0 41 "PledgeRings$Book" "count" "I" ∈ GW := tm1 (List.mem_of_getElem? (i := 32) rfl) rfl
theorem wFN_X5_54 : Cond.fieldLinkNest RX5 54 "PledgeRings$Book" "count" "I" RX5 ∈ lw_tbl := tm10 (List.mem_of_getElem? (i := 33) rfl)
theorem wFN_X1_21 : Cond.fieldLinkNest RX1 21 "PledgeRings$Book" "count" "I" RX5 ∈ lw_tbl := tm10 (List.mem_of_getElem? (i := 34) rfl)
theorem wFN_X3_44 : Cond.fieldLinkNest RX3 44 "PledgeRings$Book" "count" "I" RX5 ∈ lw_tbl := tm10 (List.mem_of_getElem? (i := 35) rfl)
theorem wF_X0_44 : Cond.fieldLink RX0 44 "PledgeRings$Book" "payments" "I" ∈ GW := tm1 (List.mem_of_getElem? (i := 36) rfl) rfl
theorem wFN_X5_192 : Cond.fieldLinkNest RX5 192 "PledgeRings$Book" "payments" "I" RX5 ∈ lw_tbl := tm10 (List.mem_of_getElem? (i := 37) rfl)
theorem wF_X0_47 : Cond.fieldLink RX0 47 "PledgeRings$Book" "releases" "I" ∈ GW := tm1 (List.mem_of_getElem? (i := 38) rfl) rfl
theorem wFN_X5_195 : Cond.fieldLinkNest RX5 195 "PledgeRings$Book" "releases" "I" RX5 ∈ lw_tbl := tm10 (List.mem_of_getElem? (i := 39) rfl)
theorem wF_X0_50 : Cond.fieldLink RX0 50 "PledgeRings$Book" "discharges" "I" ∈ GW := tm1 (List.mem_of_getElem? (i := 40) rfl) rfl
theorem wFN_X4_79 : Cond.fieldLinkNest RX4 79 "PledgeRings$Book" "discharges" "I" RX5 ∈ lw_tbl := tm10 (List.mem_of_getElem? (i := 41) rfl)
theorem wFN_X5_198 : Cond.fieldLinkNest RX5 198 "PledgeRings$Book" "discharges" "I" RX5 ∈ lw_tbl := tm10 (List.mem_of_getElem? (i := 42) rfl)
theorem wF_X0_15 : Cond.fieldLink RX0 15 "PledgeRings$Book" "from" "[I" ∈ GW := tm1 (List.mem_of_getElem? (i := 43) rfl) rfl
theorem wFN_X3_54 : Cond.fieldLinkNest RX3 54 "PledgeRings$Book" "from" "[I" RX5 ∈ lw_tbl := tm10 (List.mem_of_getElem? (i := 44) rfl)
theorem wFN_X5_145 : Cond.fieldLinkNest RX5 145 "PledgeRings$Book" "from" "[I" RX5 ∈ lw_tbl := tm10 (List.mem_of_getElem? (i := 45) rfl)
theorem wF_X0_19 : Cond.fieldLink RX0 19 "PledgeRings$Book" "to" "[I" ∈ GW := tm1 (List.mem_of_getElem? (i := 46) rfl) rfl
theorem wFN_X3_64 : Cond.fieldLinkNest RX3 64 "PledgeRings$Book" "to" "[I" RX5 ∈ lw_tbl := tm10 (List.mem_of_getElem? (i := 47) rfl)
theorem wFN_X5_148 : Cond.fieldLinkNest RX5 148 "PledgeRings$Book" "to" "[I" RX5 ∈ lw_tbl := tm10 (List.mem_of_getElem? (i := 48) rfl)
theorem wF_X0_22 : Cond.fieldLink RX0 22 "PledgeRings$Book" "amount" "[I" ∈ GW := tm1 (List.mem_of_getElem? (i := 49) rfl) rfl
theorem wFN_X1_38 : Cond.fieldLinkNest RX1 38 "PledgeRings$Book" "amount" "[I" RX5 ∈ lw_tbl := tm10 (List.mem_of_getElem? (i := 50) rfl)
theorem wFN_X3_57 : Cond.fieldLinkNest RX3 57 "PledgeRings$Book" "amount" "[I" RX5 ∈ lw_tbl := tm10 (List.mem_of_getElem? (i := 51) rfl)
theorem wFN_X5_97 : Cond.fieldLinkNest RX5 97 "PledgeRings$Book" "amount" "[I" RX5 ∈ lw_tbl := tm10 (List.mem_of_getElem? (i := 52) rfl)
theorem wFN_X4_107 : Cond.fieldLinkNest RX4 107 "PledgeRings$Book" "amount" "[I" RX5 ∈ lw_tbl := tm10 (List.mem_of_getElem? (i := 53) rfl)
theorem wF_X0_25 : Cond.fieldLink RX0 25 "PledgeRings$Book" "rate" "[I" ∈ GW := tm1 (List.mem_of_getElem? (i := 54) rfl) rfl
theorem wFN_X1_27 : Cond.fieldLinkNest RX1 27 "PledgeRings$Book" "rate" "[I" RX5 ∈ lw_tbl := tm10 (List.mem_of_getElem? (i := 55) rfl)
theorem wFN_X3_75 : Cond.fieldLinkNest RX3 75 "PledgeRings$Book" "rate" "[I" RX5 ∈ lw_tbl := tm10 (List.mem_of_getElem? (i := 56) rfl)
theorem wFN_X5_151 : Cond.fieldLinkNest RX5 151 "PledgeRings$Book" "rate" "[I" RX5 ∈ lw_tbl := tm10 (List.mem_of_getElem? (i := 57) rfl)
theorem wF_X0_28 : Cond.fieldLink RX0 28 "PledgeRings$Book" "amountAtFirst" "[I" ∈ GW := tm1 (List.mem_of_getElem? (i := 58) rfl) rfl
theorem wFN_X5_154 : Cond.fieldLinkNest RX5 154 "PledgeRings$Book" "amountAtFirst" "[I" RX5 ∈ lw_tbl := tm10 (List.mem_of_getElem? (i := 59) rfl)
theorem wF_X0_31 : Cond.fieldLink RX0 31 "PledgeRings$Book" "paid" "[I" ∈ GW := tm1 (List.mem_of_getElem? (i := 60) rfl) rfl
theorem wFN_X5_157 : Cond.fieldLinkNest RX5 157 "PledgeRings$Book" "paid" "[I" RX5 ∈ lw_tbl := tm10 (List.mem_of_getElem? (i := 61) rfl)
theorem wF_X0_34 : Cond.fieldLink RX0 34 "PledgeRings$Book" "released" "[I" ∈ GW := tm1 (List.mem_of_getElem? (i := 62) rfl) rfl
theorem wFN_X5_160 : Cond.fieldLinkNest RX5 160 "PledgeRings$Book" "released" "[I" RX5 ∈ lw_tbl := tm10 (List.mem_of_getElem? (i := 63) rfl)
theorem wF_X0_37 : Cond.fieldLink RX0 37 "PledgeRings$Book" "disputed" "[Z" ∈ GW := tm1 (List.mem_of_getElem? (i := 64) rfl) rfl
theorem wFN_X5_116 : Cond.fieldLinkNest RX5 116 "PledgeRings$Book" "disputed" "[Z" RX5 ∈ lw_tbl := tm10 (List.mem_of_getElem? (i := 65) rfl)
theorem wFN_X3_105 : Cond.fieldLinkNest RX3 105 "PledgeRings$Book" "disputed" "[Z" RX5 ∈ lw_tbl := tm10 (List.mem_of_getElem? (i := 66) rfl)
theorem wY_X0_parties : Cond.lays RX0 "PledgeRings$Book" "parties" "I" ∈ GW := tm1 (List.mem_of_getElem? (i := 67) rfl) rfl
theorem wY_X0_count : Cond.lays RX0 "PledgeRings$Book" "count" "I" ∈ GW := tm1 (List.mem_of_getElem? (i := 69) rfl) rfl
theorem wY_X0_payments : Cond.lays RX0 "PledgeRings$Book" "payments" "I" ∈ GW := tm1 (List.mem_of_getElem? (i := 71) rfl) rfl
theorem wY_X0_releases : Cond.lays RX0 "PledgeRings$Book" "releases" "I" ∈ GW := tm1 (List.mem_of_getElem? (i := 73) rfl) rfl
theorem wY_X0_discharges : Cond.lays RX0 "PledgeRings$Book" "discharges" "I" ∈ GW := tm1 (List.mem_of_getElem? (i := 75) rfl) rfl
theorem wY_X0_from : Cond.laysFinal RX0 "PledgeRings$Book" "from" "[I" ∈ GW := tm1 (List.mem_of_getElem? (i := 77) rfl) rfl
theorem wY_X0_to : Cond.laysFinal RX0 "PledgeRings$Book" "to" "[I" ∈ GW := tm1 (List.mem_of_getElem? (i := 79) rfl) rfl
theorem wY_X0_amount : Cond.laysFinal RX0 "PledgeRings$Book" "amount" "[I" ∈ GW := tm1 (List.mem_of_getElem? (i := 81) rfl) rfl
theorem wY_X0_rate : Cond.laysFinal RX0 "PledgeRings$Book" "rate" "[I" ∈ GW := tm1 (List.mem_of_getElem? (i := 83) rfl) rfl
theorem wY_X0_amountAtFirst : Cond.laysFinal RX0 "PledgeRings$Book" "amountAtFirst" "[I" ∈ GW := tm1 (List.mem_of_getElem? (i := 85) rfl) rfl
theorem wY_X0_paid : Cond.laysFinal RX0 "PledgeRings$Book" "paid" "[I" ∈ GW := tm1 (List.mem_of_getElem? (i := 87) rfl) rfl
theorem wY_X0_released : Cond.laysFinal RX0 "PledgeRings$Book" "released" "[I" ∈ GW := tm1 (List.mem_of_getElem? (i := 89) rfl) rfl
theorem wY_X0_disputed : Cond.laysFinal RX0 "PledgeRings$Book" "disputed" "[Z" ∈ GW := tm1 (List.mem_of_getElem? (i := 91) rfl) rfl
theorem wA__int : Cond.arrayClass .int ∈ GW := tm1 (List.mem_of_getElem? (i := 94) rfl) rfl
theorem wA__boolean : Cond.arrayClass .boolean ∈ GW := tm1 (List.mem_of_getElem? (i := 95) rfl) rfl
theorem wK_X5_19 : Cond.classLink RX5 19 RX4 ∈ GW := tm1 (List.mem_of_getElem? (i := 96) rfl) rfl
theorem wIb_X4 : Cond.instantiable RX4 4 ∈ GW := tm1 (List.mem_of_getElem? (i := 97) rfl) rfl
theorem wLN_X5_21 : Cond.methodLinkNest RX5 21 yX4_init RX5 ∈ lw_tbl := tm10 (List.mem_of_getElem? (i := 98) rfl)
theorem wI_X4_init : Cond.instanceMethod yX4_init ∈ GW := tm1 (List.mem_of_getElem? (i := 99) rfl) rfl
theorem wC_X4_init : Cond.code yX4_init cX4_init 1 none ∈ GW := tm1 (List.mem_of_getElem? (i := 100) rfl) rfl
theorem wL_X4_5 : Cond.methodLink RX4 5 ⟨"java/lang/Object", "<init>", "()V"⟩ ∈ GW := tm1 (List.mem_of_getElem? (i := 101) rfl) rfl
theorem wK_X4_11 : Cond.classLink RX4 11 RX1 ∈ GW := tm1 (List.mem_of_getElem? (i := 102) rfl) rfl
theorem wIb_X1 : Cond.instantiable RX1 3 ∈ GW := tm1 (List.mem_of_getElem? (i := 103) rfl) rfl
theorem wLN_X4_13 : Cond.methodLinkNest RX4 13 yX1_init RX5 ∈ lw_tbl := tm10 (List.mem_of_getElem? (i := 104) rfl)
theorem wI_X1_init : Cond.instanceMethod yX1_init ∈ GW := tm1 (List.mem_of_getElem? (i := 105) rfl) rfl
theorem wC_X1_init : Cond.code yX1_init cX1_init 1 none ∈ GW := tm1 (List.mem_of_getElem? (i := 106) rfl) rfl
theorem wL_X1_3 : Cond.methodLink RX1 3 ⟨"java/lang/Object", "<init>", "()V"⟩ ∈ GW := tm1 (List.mem_of_getElem? (i := 107) rfl) rfl
theorem wF_X1_9 : Cond.fieldLink RX1 9 "PledgeRings$Debts" "sum" "[I" ∈ GW := tm1 (List.mem_of_getElem? (i := 108) rfl) rfl
theorem wF_X1_15 : Cond.fieldLink RX1 15 "PledgeRings$Debts" "firstOf" "[I" ∈ GW := tm1 (List.mem_of_getElem? (i := 109) rfl) rfl
theorem wF_X1_18 : Cond.fieldLink RX1 18 "PledgeRings$Debts" "nextOf" "[I" ∈ GW := tm1 (List.mem_of_getElem? (i := 110) rfl) rfl
theorem wY_X1_sum : Cond.laysFinal RX1 "PledgeRings$Debts" "sum" "[I" ∈ GW := tm1 (List.mem_of_getElem? (i := 111) rfl) rfl
theorem wY_X1_firstOf : Cond.laysFinal RX1 "PledgeRings$Debts" "firstOf" "[I" ∈ GW := tm1 (List.mem_of_getElem? (i := 113) rfl) rfl
theorem wY_X1_nextOf : Cond.laysFinal RX1 "PledgeRings$Debts" "nextOf" "[I" ∈ GW := tm1 (List.mem_of_getElem? (i := 115) rfl) rfl
theorem wF_X4_14 : Cond.fieldLink RX4 14 "PledgeRings$Rings" "debts" "LPledgeRings$Debts;" ∈ GW := tm1 (List.mem_of_getElem? (i := 118) rfl) rfl
theorem wF_X4_18 : Cond.fieldLink RX4 18 "PledgeRings$Rings" "rows" "[I" ∈ GW := tm1 (List.mem_of_getElem? (i := 119) rfl) rfl
theorem wF_X4_22 : Cond.fieldLink RX4 22 "PledgeRings$Rings" "through" "[I" ∈ GW := tm1 (List.mem_of_getElem? (i := 120) rfl) rfl
theorem wF_X4_29 : Cond.fieldLink RX4 29 "PledgeRings$Rings" "size" "I" ∈ GW := tm1 (List.mem_of_getElem? (i := 121) rfl) rfl
theorem wFN_X5_280 : Cond.fieldLinkNest RX5 280 "PledgeRings$Rings" "size" "I" RX5 ∈ lw_tbl := tm10 (List.mem_of_getElem? (i := 122) rfl)
theorem wY_X4_debts : Cond.laysFinal RX4 "PledgeRings$Rings" "debts" "LPledgeRings$Debts;" ∈ GW := tm1 (List.mem_of_getElem? (i := 123) rfl) rfl
theorem wY_X4_rows : Cond.laysFinal RX4 "PledgeRings$Rings" "rows" "[I" ∈ GW := tm1 (List.mem_of_getElem? (i := 125) rfl) rfl
theorem wY_X4_through : Cond.laysFinal RX4 "PledgeRings$Rings" "through" "[I" ∈ GW := tm1 (List.mem_of_getElem? (i := 127) rfl) rfl
theorem wY_X4_size : Cond.lays RX4 "PledgeRings$Rings" "size" "I" ∈ GW := tm1 (List.mem_of_getElem? (i := 129) rfl) rfl
theorem wK_X5_26 : Cond.classLink RX5 26 RX3 ∈ GW := tm1 (List.mem_of_getElem? (i := 132) rfl) rfl
theorem wIb_X3 : Cond.instantiable RX3 4 ∈ GW := tm1 (List.mem_of_getElem? (i := 133) rfl) rfl
theorem wLN_X5_28 : Cond.methodLinkNest RX5 28 yX3_init RX5 ∈ lw_tbl := tm10 (List.mem_of_getElem? (i := 134) rfl)
theorem wI_X3_init : Cond.instanceMethod yX3_init ∈ GW := tm1 (List.mem_of_getElem? (i := 135) rfl) rfl
theorem wC_X3_init : Cond.code yX3_init cX3_init 1 none ∈ GW := tm1 (List.mem_of_getElem? (i := 136) rfl) rfl
theorem wL_X3_3 : Cond.methodLink RX3 3 ⟨"java/lang/Object", "<init>", "()V"⟩ ∈ GW := tm1 (List.mem_of_getElem? (i := 137) rfl) rfl
theorem wF_X3_9 : Cond.fieldLink RX3 9 "PledgeRings$Remainder" "stays" "[I" ∈ GW := tm1 (List.mem_of_getElem? (i := 138) rfl) rfl
theorem wF_X3_15 : Cond.fieldLink RX3 15 "PledgeRings$Remainder" "excess" "[I" ∈ GW := tm1 (List.mem_of_getElem? (i := 139) rfl) rfl
theorem wF_X3_18 : Cond.fieldLink RX3 18 "PledgeRings$Remainder" "distance" "[I" ∈ GW := tm1 (List.mem_of_getElem? (i := 140) rfl) rfl
theorem wF_X3_21 : Cond.fieldLink RX3 21 "PledgeRings$Remainder" "reachedBy" "[I" ∈ GW := tm1 (List.mem_of_getElem? (i := 141) rfl) rfl
theorem wY_X3_stays : Cond.laysFinal RX3 "PledgeRings$Remainder" "stays" "[I" ∈ GW := tm1 (List.mem_of_getElem? (i := 142) rfl) rfl
theorem wY_X3_excess : Cond.laysFinal RX3 "PledgeRings$Remainder" "excess" "[I" ∈ GW := tm1 (List.mem_of_getElem? (i := 144) rfl) rfl
theorem wY_X3_distance : Cond.laysFinal RX3 "PledgeRings$Remainder" "distance" "[I" ∈ GW := tm1 (List.mem_of_getElem? (i := 146) rfl) rfl
theorem wY_X3_reachedBy : Cond.laysFinal RX3 "PledgeRings$Remainder" "reachedBy" "[I" ∈ GW := tm1 (List.mem_of_getElem? (i := 148) rfl) rfl
theorem wK_X5_33 : Cond.classLink RX5 33 RX2 ∈ GW := tm1 (List.mem_of_getElem? (i := 151) rfl) rfl
theorem wIb_X2 : Cond.instantiable RX2 10 ∈ GW := tm1 (List.mem_of_getElem? (i := 152) rfl) rfl
theorem wLN_X5_35 : Cond.methodLinkNest RX5 35 yX2_init RX5 ∈ lw_tbl := tm10 (List.mem_of_getElem? (i := 153) rfl)
theorem wI_X2_init : Cond.instanceMethod yX2_init ∈ GW := tm1 (List.mem_of_getElem? (i := 154) rfl) rfl
theorem wC_X2_init : Cond.code yX2_init cX2_init 1 none ∈ GW := tm1 (List.mem_of_getElem? (i := 155) rfl) rfl
theorem wL_X2_3 : Cond.methodLink RX2 3 ⟨"java/lang/Object", "<init>", "()V"⟩ ∈ GW := tm1 (List.mem_of_getElem? (i := 156) rfl) rfl
theorem wF_X2_9 : Cond.fieldLink RX2 9 "PledgeRings$Orders" "bytes" "[I" ∈ GW := tm1 (List.mem_of_getElem? (i := 157) rfl) rfl
theorem wF_X2_15 : Cond.fieldLink RX2 15 "PledgeRings$Orders" "length" "I" ∈ GW := tm1 (List.mem_of_getElem? (i := 158) rfl) rfl
theorem wFN_X5_244 : Cond.fieldLinkNest RX5 244 "PledgeRings$Orders" "length" "I" RX5 ∈ lw_tbl := tm10 (List.mem_of_getElem? (i := 159) rfl)
theorem wF_X2_19 : Cond.fieldLink RX2 19 "PledgeRings$Orders" "at" "I" ∈ GW := tm1 (List.mem_of_getElem? (i := 160) rfl) rfl
theorem wF_X2_22 : Cond.fieldLink RX2 22 "PledgeRings$Orders" "errorAt" "I" ∈ GW := tm1 (List.mem_of_getElem? (i := 161) rfl) rfl
theorem wF_X2_36 : Cond.fieldLink RX2 36 "PledgeRings$Orders" "sign" "I" ∈ GW := tm1 (List.mem_of_getElem? (i := 162) rfl) rfl
theorem wFN_X5_286 : Cond.fieldLinkNest RX5 286 "PledgeRings$Orders" "sign" "I" RX5 ∈ lw_tbl := tm10 (List.mem_of_getElem? (i := 163) rfl)
theorem wF_X2_60 : Cond.fieldLink RX2 60 "PledgeRings$Orders" "from" "I" ∈ GW := tm1 (List.mem_of_getElem? (i := 164) rfl) rfl
theorem wFN_X5_301 : Cond.fieldLinkNest RX5 301 "PledgeRings$Orders" "from" "I" RX5 ∈ lw_tbl := tm10 (List.mem_of_getElem? (i := 165) rfl)
theorem wF_X2_63 : Cond.fieldLink RX2 63 "PledgeRings$Orders" "to" "I" ∈ GW := tm1 (List.mem_of_getElem? (i := 166) rfl) rfl
theorem wFN_X5_303 : Cond.fieldLinkNest RX5 303 "PledgeRings$Orders" "to" "I" RX5 ∈ lw_tbl := tm10 (List.mem_of_getElem? (i := 167) rfl)
theorem wF_X2_66 : Cond.fieldLink RX2 66 "PledgeRings$Orders" "amount" "I" ∈ GW := tm1 (List.mem_of_getElem? (i := 168) rfl) rfl
theorem wFN_X5_305 : Cond.fieldLinkNest RX5 305 "PledgeRings$Orders" "amount" "I" RX5 ∈ lw_tbl := tm10 (List.mem_of_getElem? (i := 169) rfl)
theorem wF_X2_69 : Cond.fieldLink RX2 69 "PledgeRings$Orders" "rate" "I" ∈ GW := tm1 (List.mem_of_getElem? (i := 170) rfl) rfl
theorem wFN_X5_307 : Cond.fieldLinkNest RX5 307 "PledgeRings$Orders" "rate" "I" RX5 ∈ lw_tbl := tm10 (List.mem_of_getElem? (i := 171) rfl)
theorem wF_X2_46 : Cond.fieldLink RX2 46 "PledgeRings$Orders" "number" "I" ∈ GW := tm1 (List.mem_of_getElem? (i := 172) rfl) rfl
theorem wFN_X5_292 : Cond.fieldLinkNest RX5 292 "PledgeRings$Orders" "number" "I" RX5 ∈ lw_tbl := tm10 (List.mem_of_getElem? (i := 173) rfl)
theorem wY_X2_bytes : Cond.laysFinal RX2 "PledgeRings$Orders" "bytes" "[I" ∈ GW := tm1 (List.mem_of_getElem? (i := 174) rfl) rfl
theorem wY_X2_length : Cond.lays RX2 "PledgeRings$Orders" "length" "I" ∈ GW := tm1 (List.mem_of_getElem? (i := 176) rfl) rfl
theorem wY_X2_at : Cond.lays RX2 "PledgeRings$Orders" "at" "I" ∈ GW := tm1 (List.mem_of_getElem? (i := 178) rfl) rfl
theorem wY_X2_errorAt : Cond.lays RX2 "PledgeRings$Orders" "errorAt" "I" ∈ GW := tm1 (List.mem_of_getElem? (i := 180) rfl) rfl
theorem wY_X2_sign : Cond.lays RX2 "PledgeRings$Orders" "sign" "I" ∈ GW := tm1 (List.mem_of_getElem? (i := 182) rfl) rfl
theorem wY_X2_from : Cond.lays RX2 "PledgeRings$Orders" "from" "I" ∈ GW := tm1 (List.mem_of_getElem? (i := 184) rfl) rfl
theorem wY_X2_to : Cond.lays RX2 "PledgeRings$Orders" "to" "I" ∈ GW := tm1 (List.mem_of_getElem? (i := 186) rfl) rfl
theorem wY_X2_amount : Cond.lays RX2 "PledgeRings$Orders" "amount" "I" ∈ GW := tm1 (List.mem_of_getElem? (i := 188) rfl) rfl
theorem wY_X2_rate : Cond.lays RX2 "PledgeRings$Orders" "rate" "I" ∈ GW := tm1 (List.mem_of_getElem? (i := 190) rfl) rfl
theorem wY_X2_number : Cond.lays RX2 "PledgeRings$Orders" "number" "I" ∈ GW := tm1 (List.mem_of_getElem? (i := 192) rfl) rfl
theorem wF_X5_12 : Cond.fieldLink RX5 12 "PledgeRings" "book" "LPledgeRings$Book;" ∈ GW := tm1 (List.mem_of_getElem? (i := 196) rfl) rfl
theorem wF_X5_16 : Cond.fieldLink RX5 16 "PledgeRings" "trial" "LPledgeRings$Book;" ∈ GW := tm1 (List.mem_of_getElem? (i := 197) rfl) rfl
theorem wF_X5_22 : Cond.fieldLink RX5 22 "PledgeRings" "rings" "LPledgeRings$Rings;" ∈ GW := tm1 (List.mem_of_getElem? (i := 198) rfl) rfl
theorem wF_X5_29 : Cond.fieldLink RX5 29 "PledgeRings" "remainder" "LPledgeRings$Remainder;" ∈ GW := tm1 (List.mem_of_getElem? (i := 199) rfl) rfl
theorem wF_X5_36 : Cond.fieldLink RX5 36 "PledgeRings" "orders" "LPledgeRings$Orders;" ∈ GW := tm1 (List.mem_of_getElem? (i := 200) rfl) rfl
theorem wF_X5_40 : Cond.fieldLink RX5 40 "PledgeRings" "saved" "[LPledgeRings$Book;" ∈ GW := tm1 (List.mem_of_getElem? (i := 201) rfl) rfl
theorem wF_X5_262 : Cond.fieldLink RX5 262 "PledgeRings" "savedCount" "I" ∈ GW := tm1 (List.mem_of_getElem? (i := 202) rfl) rfl
theorem wY_X5_book : Cond.laysFinal RX5 "PledgeRings" "book" "LPledgeRings$Book;" ∈ GW := tm1 (List.mem_of_getElem? (i := 203) rfl) rfl
theorem wY_X5_trial : Cond.laysFinal RX5 "PledgeRings" "trial" "LPledgeRings$Book;" ∈ GW := tm1 (List.mem_of_getElem? (i := 205) rfl) rfl
theorem wY_X5_rings : Cond.laysFinal RX5 "PledgeRings" "rings" "LPledgeRings$Rings;" ∈ GW := tm1 (List.mem_of_getElem? (i := 207) rfl) rfl
theorem wY_X5_remainder : Cond.laysFinal RX5 "PledgeRings" "remainder" "LPledgeRings$Remainder;" ∈ GW := tm1 (List.mem_of_getElem? (i := 209) rfl) rfl
theorem wY_X5_orders : Cond.laysFinal RX5 "PledgeRings" "orders" "LPledgeRings$Orders;" ∈ GW := tm1 (List.mem_of_getElem? (i := 211) rfl) rfl
theorem wY_X5_saved : Cond.laysFinal RX5 "PledgeRings" "saved" "[LPledgeRings$Book;" ∈ GW := tm1 (List.mem_of_getElem? (i := 213) rfl) rfl
theorem wY_X5_savedCount : Cond.lays RX5 "PledgeRings" "savedCount" "I" ∈ GW := tm1 (List.mem_of_getElem? (i := 215) rfl) rfl
theorem wL_L_107 : Cond.methodLink RL 107 yX5_dischargeAll ∈ GW := tm1 (List.mem_of_getElem? (i := 218) rfl) rfl
theorem wI_X5_dischargeAll : Cond.instanceMethod yX5_dischargeAll ∈ GW := tm1 (List.mem_of_getElem? (i := 219) rfl) rfl
theorem wSe_X5_X5_dischargeAll : Cond.selects RX5 yX5_dischargeAll yX5_dischargeAll ∈ GW := tm1 (List.mem_of_getElem? (i := 220) rfl) rfl
theorem wC_X5_dischargeAll : Cond.code yX5_dischargeAll cX5_dischargeAll 1 (some .int) ∈ GW := tm1 (List.mem_of_getElem? (i := 221) rfl) rfl
theorem wL_X5_51 : Cond.methodLink RX5 51 yX5_save ∈ GW := tm1 (List.mem_of_getElem? (i := 222) rfl) rfl
theorem wI_X5_save : Cond.instanceMethod yX5_save ∈ GW := tm1 (List.mem_of_getElem? (i := 224) rfl) rfl
theorem wC_X5_save : Cond.code yX5_save cX5_save 2 none ∈ GW := tm1 (List.mem_of_getElem? (i := 225) rfl) rfl
theorem wL_X5_283 : Cond.methodLink RX5 283 yX5_dropOldest ∈ GW := tm1 (List.mem_of_getElem? (i := 226) rfl) rfl
theorem wI_X5_dropOldest : Cond.instanceMethod yX5_dropOldest ∈ GW := tm1 (List.mem_of_getElem? (i := 228) rfl) rfl
theorem wC_X5_dropOldest : Cond.code yX5_dropOldest cX5_dropOldest 3 none ∈ GW := tm1 (List.mem_of_getElem? (i := 229) rfl) rfl
theorem wL_X5_216 : Cond.methodLink RX5 216 yX0_copyFrom ∈ GW := tm1 (List.mem_of_getElem? (i := 230) rfl) rfl
theorem wI_X0_copyFrom : Cond.instanceMethod yX0_copyFrom ∈ GW := tm1 (List.mem_of_getElem? (i := 231) rfl) rfl
theorem wSe_X0_X0_copyFrom : Cond.selects RX0 yX0_copyFrom yX0_copyFrom ∈ GW := tm1 (List.mem_of_getElem? (i := 232) rfl) rfl
theorem wC_X0_copyFrom : Cond.code yX0_copyFrom cX0_copyFrom 3 none ∈ GW := tm1 (List.mem_of_getElem? (i := 233) rfl) rfl
theorem wL_X0_53 : Cond.methodLink RX0 53 ⟨"java/lang/System", "arraycopy", "(Ljava/lang/Object;ILjava/lang/Object;II)V"⟩ ∈ GW := tm1 (List.mem_of_getElem? (i := 234) rfl) rfl
theorem wS_J10_arraycopy_Ljava_lang_Object_ILjava_lang_Object_II_V : Cond.static ⟨"java/lang/System", "arraycopy", "(Ljava/lang/Object;ILjava/lang/Object;II)V"⟩ ∈ GW := tm1 (List.mem_of_getElem? (i := 235) rfl) rfl
theorem wNa_J10_arraycopy_Ljava_lang_Object_ILjava_lang_Object_II_V : Cond.native ⟨"java/lang/System", "arraycopy", "(Ljava/lang/Object;ILjava/lang/Object;II)V"⟩ ∈ GW := tm1 (List.mem_of_getElem? (i := 236) rfl) rfl
theorem wL_X5_142 : Cond.methodLink RX5 142 yX4_releaseAll ∈ GW := tm1 (List.mem_of_getElem? (i := 237) rfl) rfl
theorem wI_X4_releaseAll : Cond.instanceMethod yX4_releaseAll ∈ GW := tm1 (List.mem_of_getElem? (i := 238) rfl) rfl
theorem wSe_X4_X4_releaseAll : Cond.selects RX4 yX4_releaseAll yX4_releaseAll ∈ GW := tm1 (List.mem_of_getElem? (i := 239) rfl) rfl
theorem wC_X4_releaseAll : Cond.code yX4_releaseAll cX4_releaseAll 4 (some .int) ∈ GW := tm2 (List.mem_of_getElem? (i := 0) rfl) rfl
theorem wL_X4_91 : Cond.methodLink RX4 91 yX4_find ∈ GW := tm2 (List.mem_of_getElem? (i := 1) rfl) rfl
theorem wI_X4_find : Cond.instanceMethod yX4_find ∈ GW := tm2 (List.mem_of_getElem? (i := 2) rfl) rfl
theorem wSe_X4_X4_find : Cond.selects RX4 yX4_find yX4_find ∈ GW := tm2 (List.mem_of_getElem? (i := 3) rfl) rfl
theorem wC_X4_find : Cond.code yX4_find cX4_find 3 none ∈ GW := tm2 (List.mem_of_getElem? (i := 4) rfl) rfl
theorem wL_X4_25 : Cond.methodLink RX4 25 yX1_read ∈ GW := tm2 (List.mem_of_getElem? (i := 5) rfl) rfl
theorem wI_X1_read : Cond.instanceMethod yX1_read ∈ GW := tm2 (List.mem_of_getElem? (i := 6) rfl) rfl
theorem wSe_X1_X1_read : Cond.selects RX1 yX1_read yX1_read ∈ GW := tm2 (List.mem_of_getElem? (i := 7) rfl) rfl
theorem wC_X1_read : Cond.code yX1_read cX1_read 4 none ∈ GW := tm2 (List.mem_of_getElem? (i := 8) rfl) rfl
theorem wL_X1_30 : Cond.methodLink RX1 30 yX0_isOwing ∈ GW := tm2 (List.mem_of_getElem? (i := 9) rfl) rfl
theorem wI_X0_isOwing : Cond.instanceMethod yX0_isOwing ∈ GW := tm2 (List.mem_of_getElem? (i := 10) rfl) rfl
theorem wSe_X0_X0_isOwing : Cond.selects RX0 yX0_isOwing yX0_isOwing ∈ GW := tm2 (List.mem_of_getElem? (i := 11) rfl) rfl
theorem wC_X0_isOwing : Cond.code yX0_isOwing cX0_isOwing 2 (some .boolean) ∈ GW := tm2 (List.mem_of_getElem? (i := 12) rfl) rfl
theorem wL_X1_34 : Cond.methodLink RX1 34 yX0_pairOf ∈ GW := tm2 (List.mem_of_getElem? (i := 13) rfl) rfl
theorem wI_X0_pairOf : Cond.instanceMethod yX0_pairOf ∈ GW := tm2 (List.mem_of_getElem? (i := 14) rfl) rfl
theorem wSe_X0_X0_pairOf : Cond.selects RX0 yX0_pairOf yX0_pairOf ∈ GW := tm2 (List.mem_of_getElem? (i := 15) rfl) rfl
theorem wC_X0_pairOf : Cond.code yX0_pairOf cX0_pairOf 2 (some .int) ∈ GW := tm2 (List.mem_of_getElem? (i := 16) rfl) rfl
theorem wL_X1_41 : Cond.methodLink RX1 41 yX1_putFirst ∈ GW := tm2 (List.mem_of_getElem? (i := 17) rfl) rfl
theorem wI_X1_putFirst : Cond.instanceMethod yX1_putFirst ∈ GW := tm2 (List.mem_of_getElem? (i := 19) rfl) rfl
theorem wC_X1_putFirst : Cond.code yX1_putFirst cX1_putFirst 4 none ∈ GW := tm2 (List.mem_of_getElem? (i := 20) rfl) rfl
theorem wLN_X1_45 : Cond.methodLinkNest RX1 45 yX5_isPair RX5 ∈ lw_tbl := tm20 (List.mem_of_getElem? (i := 21) rfl)
theorem wS_X5_isPair : Cond.static yX5_isPair ∈ GW := tm2 (List.mem_of_getElem? (i := 22) rfl) rfl
theorem wC_X5_isPair : Cond.code yX5_isPair cX5_isPair 1 (some .boolean) ∈ GW := tm2 (List.mem_of_getElem? (i := 23) rfl) rfl
theorem wLN_X1_48 : Cond.methodLinkNest RX1 48 yX5_isSlot RX5 ∈ lw_tbl := tm20 (List.mem_of_getElem? (i := 24) rfl)
theorem wS_X5_isSlot : Cond.static yX5_isSlot ∈ GW := tm2 (List.mem_of_getElem? (i := 25) rfl) rfl
theorem wC_X5_isSlot : Cond.code yX5_isSlot cX5_isSlot 1 (some .boolean) ∈ GW := tm2 (List.mem_of_getElem? (i := 26) rfl) rfl
theorem wN_X4_33 : Cond.constant RX4 33 2097151 ∈ GW := tm2 (List.mem_of_getElem? (i := 27) rfl) rfl
theorem wL_X4_34 : Cond.methodLink RX4 34 yX4_rowWith ∈ GW := tm2 (List.mem_of_getElem? (i := 28) rfl) rfl
theorem wS_X4_rowWith : Cond.static yX4_rowWith ∈ GW := tm2 (List.mem_of_getElem? (i := 29) rfl) rfl
theorem wC_X4_rowWith : Cond.code yX4_rowWith cX4_rowWith 4 (some .int) ∈ GW := tm2 (List.mem_of_getElem? (i := 30) rfl) rfl
theorem wL_X4_38 : Cond.methodLink RX4 38 yX4_extend ∈ GW := tm2 (List.mem_of_getElem? (i := 31) rfl) rfl
theorem wS_X4_extend : Cond.static yX4_extend ∈ GW := tm2 (List.mem_of_getElem? (i := 32) rfl) rfl
theorem wC_X4_extend : Cond.code yX4_extend cX4_extend 7 none ∈ GW := tm2 (List.mem_of_getElem? (i := 33) rfl) rfl
theorem wL_X4_42 : Cond.methodLink RX4 42 yX4_partyIn ∈ GW := tm2 (List.mem_of_getElem? (i := 34) rfl) rfl
theorem wS_X4_partyIn : Cond.static yX4_partyIn ∈ GW := tm2 (List.mem_of_getElem? (i := 35) rfl) rfl
theorem wC_X4_partyIn : Cond.code yX4_partyIn cX4_partyIn 3 (some .int) ∈ GW := tm2 (List.mem_of_getElem? (i := 36) rfl) rfl
theorem wL_X4_46 : Cond.methodLink RX4 46 yX1_sumOf ∈ GW := tm2 (List.mem_of_getElem? (i := 37) rfl) rfl
theorem wI_X1_sumOf : Cond.instanceMethod yX1_sumOf ∈ GW := tm2 (List.mem_of_getElem? (i := 38) rfl) rfl
theorem wSe_X1_X1_sumOf : Cond.selects RX1 yX1_sumOf yX1_sumOf ∈ GW := tm2 (List.mem_of_getElem? (i := 39) rfl) rfl
theorem wC_X1_sumOf : Cond.code yX1_sumOf cX1_sumOf 2 (some .int) ∈ GW := tm2 (List.mem_of_getElem? (i := 40) rfl) rfl
theorem wL_X4_50 : Cond.methodLink RX4 50 yX4_addRow ∈ GW := tm2 (List.mem_of_getElem? (i := 41) rfl) rfl
theorem wI_X4_addRow : Cond.instanceMethod yX4_addRow ∈ GW := tm2 (List.mem_of_getElem? (i := 43) rfl) rfl
theorem wC_X4_addRow : Cond.code yX4_addRow cX4_addRow 2 none ∈ GW := tm2 (List.mem_of_getElem? (i := 44) rfl) rfl
theorem wL_X4_84 : Cond.methodLink RX4 84 yX4_best ∈ GW := tm2 (List.mem_of_getElem? (i := 45) rfl) rfl
theorem wI_X4_best : Cond.instanceMethod yX4_best ∈ GW := tm2 (List.mem_of_getElem? (i := 46) rfl) rfl
theorem wSe_X4_X4_best : Cond.selects RX4 yX4_best yX4_best ∈ GW := tm2 (List.mem_of_getElem? (i := 47) rfl) rfl
theorem wC_X4_best : Cond.code yX4_best cX4_best 6 (some .int) ∈ GW := tm2 (List.mem_of_getElem? (i := 48) rfl) rfl
theorem wL_X4_69 : Cond.methodLink RX4 69 yX4_roomAt ∈ GW := tm2 (List.mem_of_getElem? (i := 49) rfl) rfl
theorem wI_X4_roomAt : Cond.instanceMethod yX4_roomAt ∈ GW := tm2 (List.mem_of_getElem? (i := 50) rfl) rfl
theorem wSe_X4_X4_roomAt : Cond.selects RX4 yX4_roomAt yX4_roomAt ∈ GW := tm2 (List.mem_of_getElem? (i := 51) rfl) rfl
theorem wC_X4_roomAt : Cond.code yX4_roomAt cX4_roomAt 6 (some .int) ∈ GW := tm2 (List.mem_of_getElem? (i := 52) rfl) rfl
theorem wL_X4_54 : Cond.methodLink RX4 54 yX4_rowAt ∈ GW := tm2 (List.mem_of_getElem? (i := 53) rfl) rfl
theorem wI_X4_rowAt : Cond.instanceMethod yX4_rowAt ∈ GW := tm2 (List.mem_of_getElem? (i := 55) rfl) rfl
theorem wC_X4_rowAt : Cond.code yX4_rowAt cX4_rowAt 2 (some .int) ∈ GW := tm2 (List.mem_of_getElem? (i := 56) rfl) rfl
theorem wL_X4_57 : Cond.methodLink RX4 57 yX4_pairIn ∈ GW := tm2 (List.mem_of_getElem? (i := 57) rfl) rfl
theorem wS_X4_pairIn : Cond.static yX4_pairIn ∈ GW := tm2 (List.mem_of_getElem? (i := 58) rfl) rfl
theorem wC_X4_pairIn : Cond.code yX4_pairIn cX4_pairIn 4 (some .int) ∈ GW := tm2 (List.mem_of_getElem? (i := 59) rfl) rfl
theorem wL_X4_60 : Cond.methodLink RX4 60 yJ9_min_7cf53 ∈ GW := tm2 (List.mem_of_getElem? (i := 60) rfl) rfl
theorem wS_J9_min_7cf53 : Cond.static yJ9_min_7cf53 ∈ GW := tm2 (List.mem_of_getElem? (i := 61) rfl) rfl
theorem wC_J9_min_7cf53 : Cond.code yJ9_min_7cf53 cJ9_min_7cf53 2 (some .int) ∈ GW := tm2 (List.mem_of_getElem? (i := 62) rfl) rfl
theorem wL_X4_72 : Cond.methodLink RX4 72 yX4_savingAt ∈ GW := tm2 (List.mem_of_getElem? (i := 63) rfl) rfl
theorem wI_X4_savingAt : Cond.instanceMethod yX4_savingAt ∈ GW := tm2 (List.mem_of_getElem? (i := 64) rfl) rfl
theorem wSe_X4_X4_savingAt : Cond.selects RX4 yX4_savingAt yX4_savingAt ∈ GW := tm2 (List.mem_of_getElem? (i := 65) rfl) rfl
theorem wC_X4_savingAt : Cond.code yX4_savingAt cX4_savingAt 7 (some .int) ∈ GW := tm2 (List.mem_of_getElem? (i := 66) rfl) rfl
theorem wL_X4_65 : Cond.methodLink RX4 65 yX1_costOfPart ∈ GW := tm2 (List.mem_of_getElem? (i := 67) rfl) rfl
theorem wI_X1_costOfPart : Cond.instanceMethod yX1_costOfPart ∈ GW := tm2 (List.mem_of_getElem? (i := 68) rfl) rfl
theorem wSe_X1_X1_costOfPart : Cond.selects RX1 yX1_costOfPart yX1_costOfPart ∈ GW := tm2 (List.mem_of_getElem? (i := 69) rfl) rfl
theorem wC_X1_costOfPart : Cond.code yX1_costOfPart cX1_costOfPart 9 (some .int) ∈ GW := tm2 (List.mem_of_getElem? (i := 70) rfl) rfl
theorem wL_X1_51 : Cond.methodLink RX1 51 yJ9_min_7cf53 ∈ GW := tm2 (List.mem_of_getElem? (i := 71) rfl) rfl
theorem wL_X4_88 : Cond.methodLink RX4 88 yX4_releaseAround ∈ GW := tm2 (List.mem_of_getElem? (i := 72) rfl) rfl
theorem wI_X4_releaseAround : Cond.instanceMethod yX4_releaseAround ∈ GW := tm2 (List.mem_of_getElem? (i := 73) rfl) rfl
theorem wSe_X4_X4_releaseAround : Cond.selects RX4 yX4_releaseAround yX4_releaseAround ∈ GW := tm2 (List.mem_of_getElem? (i := 74) rfl) rfl
theorem wC_X4_releaseAround : Cond.code yX4_releaseAround cX4_releaseAround 7 (some .int) ∈ GW := tm2 (List.mem_of_getElem? (i := 75) rfl) rfl
theorem wL_X4_75 : Cond.methodLink RX4 75 yX1_releaseFrom ∈ GW := tm2 (List.mem_of_getElem? (i := 76) rfl) rfl
theorem wI_X1_releaseFrom : Cond.instanceMethod yX1_releaseFrom ∈ GW := tm2 (List.mem_of_getElem? (i := 77) rfl) rfl
theorem wSe_X1_X1_releaseFrom : Cond.selects RX1 yX1_releaseFrom yX1_releaseFrom ∈ GW := tm2 (List.mem_of_getElem? (i := 78) rfl) rfl
theorem wC_X1_releaseFrom : Cond.code yX1_releaseFrom cX1_releaseFrom 8 none ∈ GW := tm2 (List.mem_of_getElem? (i := 79) rfl) rfl
theorem wL_X1_57 : Cond.methodLink RX1 57 yX0_releasePart ∈ GW := tm2 (List.mem_of_getElem? (i := 80) rfl) rfl
theorem wI_X0_releasePart : Cond.instanceMethod yX0_releasePart ∈ GW := tm2 (List.mem_of_getElem? (i := 81) rfl) rfl
theorem wSe_X0_X0_releasePart : Cond.selects RX0 yX0_releasePart yX0_releasePart ∈ GW := tm2 (List.mem_of_getElem? (i := 82) rfl) rfl
theorem wC_X0_releasePart : Cond.code yX0_releasePart cX0_releasePart 3 none ∈ GW := tm2 (List.mem_of_getElem? (i := 83) rfl) rfl
theorem wL_X0_63 : Cond.methodLink RX0 63 yX0_holds ∈ GW := tm2 (List.mem_of_getElem? (i := 84) rfl) rfl
theorem wI_X0_holds : Cond.instanceMethod yX0_holds ∈ GW := tm2 (List.mem_of_getElem? (i := 85) rfl) rfl
theorem wSe_X0_X0_holds : Cond.selects RX0 yX0_holds yX0_holds ∈ GW := tm2 (List.mem_of_getElem? (i := 86) rfl) rfl
theorem wC_X0_holds : Cond.code yX0_holds cX0_holds 2 (some .boolean) ∈ GW := tm2 (List.mem_of_getElem? (i := 87) rfl) rfl
theorem wL_L_132 : Cond.methodLink RL 132 yX5_bestRing ∈ GW := tm2 (List.mem_of_getElem? (i := 88) rfl) rfl
theorem wI_X5_bestRing : Cond.instanceMethod yX5_bestRing ∈ GW := tm2 (List.mem_of_getElem? (i := 89) rfl) rfl
theorem wSe_X5_X5_bestRing : Cond.selects RX5 yX5_bestRing yX5_bestRing ∈ GW := tm2 (List.mem_of_getElem? (i := 90) rfl) rfl
theorem wC_X5_bestRing : Cond.code yX5_bestRing cX5_bestRing 1 (some .int) ∈ GW := tm2 (List.mem_of_getElem? (i := 91) rfl) rfl
theorem wL_X5_209 : Cond.methodLink RX5 209 yX4_find ∈ GW := tm2 (List.mem_of_getElem? (i := 92) rfl) rfl
theorem wL_X5_213 : Cond.methodLink RX5 213 yX4_best ∈ GW := tm2 (List.mem_of_getElem? (i := 93) rfl) rfl
theorem wL_L_136 : Cond.methodLink RL 136 yX5_costByRings ∈ GW := tm2 (List.mem_of_getElem? (i := 94) rfl) rfl
theorem wI_X5_costByRings : Cond.instanceMethod yX5_costByRings ∈ GW := tm2 (List.mem_of_getElem? (i := 95) rfl) rfl
theorem wSe_X5_X5_costByRings : Cond.selects RX5 yX5_costByRings yX5_costByRings ∈ GW := tm2 (List.mem_of_getElem? (i := 96) rfl) rfl
theorem wC_X5_costByRings : Cond.code yX5_costByRings cX5_costByRings 1 (some .int) ∈ GW := tm2 (List.mem_of_getElem? (i := 97) rfl) rfl
theorem wL_X5_189 : Cond.methodLink RX5 189 yX0_costOfAll ∈ GW := tm2 (List.mem_of_getElem? (i := 98) rfl) rfl
theorem wI_X0_costOfAll : Cond.instanceMethod yX0_costOfAll ∈ GW := tm2 (List.mem_of_getElem? (i := 99) rfl) rfl
theorem wSe_X0_X0_costOfAll : Cond.selects RX0 yX0_costOfAll yX0_costOfAll ∈ GW := tm2 (List.mem_of_getElem? (i := 100) rfl) rfl
theorem wC_X0_costOfAll : Cond.code yX0_costOfAll cX0_costOfAll 3 (some .int) ∈ GW := tm2 (List.mem_of_getElem? (i := 101) rfl) rfl
theorem wL_X0_79 : Cond.methodLink RX0 79 yX0_costOf ∈ GW := tm2 (List.mem_of_getElem? (i := 102) rfl) rfl
theorem wI_X0_costOf : Cond.instanceMethod yX0_costOf ∈ GW := tm2 (List.mem_of_getElem? (i := 103) rfl) rfl
theorem wSe_X0_X0_costOf : Cond.selects RX0 yX0_costOf yX0_costOf ∈ GW := tm2 (List.mem_of_getElem? (i := 104) rfl) rfl
theorem wC_X0_costOf : Cond.code yX0_costOf cX0_costOf 2 (some .int) ∈ GW := tm2 (List.mem_of_getElem? (i := 105) rfl) rfl
theorem wL_L_140 : Cond.methodLink RL 140 yX5_leastCost ∈ GW := tm2 (List.mem_of_getElem? (i := 106) rfl) rfl
theorem wI_X5_leastCost : Cond.instanceMethod yX5_leastCost ∈ GW := tm2 (List.mem_of_getElem? (i := 107) rfl) rfl
theorem wSe_X5_X5_leastCost : Cond.selects RX5 yX5_leastCost yX5_leastCost ∈ GW := tm2 (List.mem_of_getElem? (i := 108) rfl) rfl
theorem wC_X5_leastCost : Cond.code yX5_leastCost cX5_leastCost 1 (some .int) ∈ GW := tm2 (List.mem_of_getElem? (i := 109) rfl) rfl
theorem wL_X5_219 : Cond.methodLink RX5 219 yX3_leastCostOf ∈ GW := tm2 (List.mem_of_getElem? (i := 110) rfl) rfl
theorem wI_X3_leastCostOf : Cond.instanceMethod yX3_leastCostOf ∈ GW := tm2 (List.mem_of_getElem? (i := 111) rfl) rfl
theorem wSe_X3_X3_leastCostOf : Cond.selects RX3 yX3_leastCostOf yX3_leastCostOf ∈ GW := tm2 (List.mem_of_getElem? (i := 112) rfl) rfl
theorem wC_X3_leastCostOf : Cond.code yX3_leastCostOf cX3_leastCostOf 4 (some .int) ∈ GW := tm2 (List.mem_of_getElem? (i := 113) rfl) rfl
theorem wL_X3_24 : Cond.methodLink RX3 24 yX3_start ∈ GW := tm2 (List.mem_of_getElem? (i := 114) rfl) rfl
theorem wI_X3_start : Cond.instanceMethod yX3_start ∈ GW := tm2 (List.mem_of_getElem? (i := 116) rfl) rfl
theorem wC_X3_start : Cond.code yX3_start cX3_start 3 none ∈ GW := tm2 (List.mem_of_getElem? (i := 117) rfl) rfl
theorem wL_X3_50 : Cond.methodLink RX3 50 yX0_isOwing ∈ GW := tm2 (List.mem_of_getElem? (i := 118) rfl) rfl
theorem wL_X3_60 : Cond.methodLink RX3 60 yX3_addExcess ∈ GW := tm2 (List.mem_of_getElem? (i := 119) rfl) rfl
theorem wI_X3_addExcess : Cond.instanceMethod yX3_addExcess ∈ GW := tm2 (List.mem_of_getElem? (i := 121) rfl) rfl
theorem wC_X3_addExcess : Cond.code yX3_addExcess cX3_addExcess 3 none ∈ GW := tm2 (List.mem_of_getElem? (i := 122) rfl) rfl
theorem wLN_X3_67 : Cond.methodLinkNest RX3 67 yX5_isParty RX5 ∈ lw_tbl := tm20 (List.mem_of_getElem? (i := 123) rfl)
theorem wS_X5_isParty : Cond.static yX5_isParty ∈ GW := tm2 (List.mem_of_getElem? (i := 124) rfl) rfl
theorem wC_X5_isParty : Cond.code yX5_isParty cX5_isParty 1 (some .boolean) ∈ GW := tm2 (List.mem_of_getElem? (i := 125) rfl) rfl
theorem wL_X3_28 : Cond.methodLink RX3 28 yX3_measure ∈ GW := tm2 (List.mem_of_getElem? (i := 126) rfl) rfl
theorem wI_X3_measure : Cond.instanceMethod yX3_measure ∈ GW := tm2 (List.mem_of_getElem? (i := 128) rfl) rfl
theorem wC_X3_measure : Cond.code yX3_measure cX3_measure 5 none ∈ GW := tm2 (List.mem_of_getElem? (i := 129) rfl) rfl
theorem wN_X3_70 : Cond.constant RX3 70 1000000 ∈ GW := tm2 (List.mem_of_getElem? (i := 130) rfl) rfl
theorem wL_X3_71 : Cond.methodLink RX3 71 yX3_shorten ∈ GW := tm2 (List.mem_of_getElem? (i := 131) rfl) rfl
theorem wI_X3_shorten : Cond.instanceMethod yX3_shorten ∈ GW := tm2 (List.mem_of_getElem? (i := 133) rfl) rfl
theorem wC_X3_shorten : Cond.code yX3_shorten cX3_shorten 4 (some .boolean) ∈ GW := tm2 (List.mem_of_getElem? (i := 134) rfl) rfl
theorem wL_X3_78 : Cond.methodLink RX3 78 yX3_reach ∈ GW := tm2 (List.mem_of_getElem? (i := 135) rfl) rfl
theorem wI_X3_reach : Cond.instanceMethod yX3_reach ∈ GW := tm2 (List.mem_of_getElem? (i := 137) rfl) rfl
theorem wC_X3_reach : Cond.code yX3_reach cX3_reach 5 (some .boolean) ∈ GW := tm2 (List.mem_of_getElem? (i := 138) rfl) rfl
theorem wL_X3_31 : Cond.methodLink RX3 31 yX3_nearestEnd ∈ GW := tm2 (List.mem_of_getElem? (i := 139) rfl) rfl
theorem wI_X3_nearestEnd : Cond.instanceMethod yX3_nearestEnd ∈ GW := tm2 (List.mem_of_getElem? (i := 141) rfl) rfl
theorem wC_X3_nearestEnd : Cond.code yX3_nearestEnd cX3_nearestEnd 4 (some .int) ∈ GW := tm2 (List.mem_of_getElem? (i := 142) rfl) rfl
theorem wN_X3_35 : Cond.constant RX3 35 40000 ∈ GW := tm2 (List.mem_of_getElem? (i := 143) rfl) rfl
theorem wL_X3_36 : Cond.methodLink RX3 36 yX3_push ∈ GW := tm2 (List.mem_of_getElem? (i := 144) rfl) rfl
theorem wI_X3_push : Cond.instanceMethod yX3_push ∈ GW := tm2 (List.mem_of_getElem? (i := 146) rfl) rfl
theorem wC_X3_push : Cond.code yX3_push cX3_push 8 none ∈ GW := tm2 (List.mem_of_getElem? (i := 147) rfl) rfl
theorem wL_X3_82 : Cond.methodLink RX3 82 yX3_originOf ∈ GW := tm2 (List.mem_of_getElem? (i := 148) rfl) rfl
theorem wI_X3_originOf : Cond.instanceMethod yX3_originOf ∈ GW := tm2 (List.mem_of_getElem? (i := 150) rfl) rfl
theorem wC_X3_originOf : Cond.code yX3_originOf cX3_originOf 5 (some .int) ∈ GW := tm2 (List.mem_of_getElem? (i := 151) rfl) rfl
theorem wL_X3_95 : Cond.methodLink RX3 95 yX3_promiseTo ∈ GW := tm2 (List.mem_of_getElem? (i := 152) rfl) rfl
theorem wI_X3_promiseTo : Cond.instanceMethod yX3_promiseTo ∈ GW := tm2 (List.mem_of_getElem? (i := 154) rfl) rfl
theorem wC_X3_promiseTo : Cond.code yX3_promiseTo cX3_promiseTo 3 (some .int) ∈ GW := tm2 (List.mem_of_getElem? (i := 155) rfl) rfl
theorem wLN_X3_102 : Cond.methodLinkNest RX3 102 yX5_isSlot RX5 ∈ lw_tbl := tm20 (List.mem_of_getElem? (i := 156) rfl)
theorem wL_X3_99 : Cond.methodLink RX3 99 yX3_before ∈ GW := tm2 (List.mem_of_getElem? (i := 157) rfl) rfl
theorem wI_X3_before : Cond.instanceMethod yX3_before ∈ GW := tm2 (List.mem_of_getElem? (i := 159) rfl) rfl
theorem wC_X3_before : Cond.code yX3_before cX3_before 4 (some .int) ∈ GW := tm2 (List.mem_of_getElem? (i := 160) rfl) rfl
theorem wL_X3_86 : Cond.methodLink RX3 86 yX3_widthTo ∈ GW := tm2 (List.mem_of_getElem? (i := 161) rfl) rfl
theorem wI_X3_widthTo : Cond.instanceMethod yX3_widthTo ∈ GW := tm2 (List.mem_of_getElem? (i := 163) rfl) rfl
theorem wC_X3_widthTo : Cond.code yX3_widthTo cX3_widthTo 8 (some .int) ∈ GW := tm2 (List.mem_of_getElem? (i := 164) rfl) rfl
theorem wL_X3_89 : Cond.methodLink RX3 89 yJ9_min_7cf53 ∈ GW := tm2 (List.mem_of_getElem? (i := 165) rfl) rfl
theorem wL_X3_40 : Cond.methodLink RX3 40 yX3_costThatStays ∈ GW := tm2 (List.mem_of_getElem? (i := 166) rfl) rfl
theorem wI_X3_costThatStays : Cond.instanceMethod yX3_costThatStays ∈ GW := tm2 (List.mem_of_getElem? (i := 168) rfl) rfl
theorem wC_X3_costThatStays : Cond.code yX3_costThatStays cX3_costThatStays 4 (some .int) ∈ GW := tm2 (List.mem_of_getElem? (i := 169) rfl) rfl
theorem wL_X3_109 : Cond.methodLink RX3 109 yX0_costOf ∈ GW := tm2 (List.mem_of_getElem? (i := 170) rfl) rfl
theorem wL_L_147 : Cond.methodLink RL 147 yX5_keyPromise ∈ GW := tm2 (List.mem_of_getElem? (i := 171) rfl) rfl
theorem wI_X5_keyPromise : Cond.instanceMethod yX5_keyPromise ∈ GW := tm2 (List.mem_of_getElem? (i := 172) rfl) rfl
theorem wSe_X5_X5_keyPromise : Cond.selects RX5 yX5_keyPromise yX5_keyPromise ∈ GW := tm2 (List.mem_of_getElem? (i := 173) rfl) rfl
theorem wC_X5_keyPromise : Cond.code yX5_keyPromise cX5_keyPromise 5 (some .int) ∈ GW := tm2 (List.mem_of_getElem? (i := 174) rfl) rfl
theorem wL_X5_222 : Cond.methodLink RX5 222 yX4_countThrough ∈ GW := tm2 (List.mem_of_getElem? (i := 175) rfl) rfl
theorem wI_X4_countThrough : Cond.instanceMethod yX4_countThrough ∈ GW := tm2 (List.mem_of_getElem? (i := 176) rfl) rfl
theorem wSe_X4_X4_countThrough : Cond.selects RX4 yX4_countThrough yX4_countThrough ∈ GW := tm2 (List.mem_of_getElem? (i := 177) rfl) rfl
theorem wC_X4_countThrough : Cond.code yX4_countThrough cX4_countThrough 5 none ∈ GW := tm2 (List.mem_of_getElem? (i := 178) rfl) rfl
theorem wLN_X4_94 : Cond.methodLinkNest RX4 94 yX5_isPair RX5 ∈ lw_tbl := tm20 (List.mem_of_getElem? (i := 179) rfl)
theorem wL_X5_229 : Cond.methodLink RX5 229 yX0_isOwing ∈ GW := tm2 (List.mem_of_getElem? (i := 180) rfl) rfl
theorem wL_X5_225 : Cond.methodLink RX5 225 yX4_sizeWithout ∈ GW := tm2 (List.mem_of_getElem? (i := 181) rfl) rfl
theorem wI_X4_sizeWithout : Cond.instanceMethod yX4_sizeWithout ∈ GW := tm2 (List.mem_of_getElem? (i := 182) rfl) rfl
theorem wSe_X4_X4_sizeWithout : Cond.selects RX4 yX4_sizeWithout yX4_sizeWithout ∈ GW := tm2 (List.mem_of_getElem? (i := 183) rfl) rfl
theorem wC_X4_sizeWithout : Cond.code yX4_sizeWithout cX4_sizeWithout 5 (some .int) ∈ GW := tm2 (List.mem_of_getElem? (i := 184) rfl) rfl
theorem wL_X4_98 : Cond.methodLink RX4 98 yX0_holds ∈ GW := tm2 (List.mem_of_getElem? (i := 185) rfl) rfl
theorem wL_X4_101 : Cond.methodLink RX4 101 yX0_isOwing ∈ GW := tm2 (List.mem_of_getElem? (i := 186) rfl) rfl
theorem wL_X4_104 : Cond.methodLink RX4 104 yX0_pairOf ∈ GW := tm2 (List.mem_of_getElem? (i := 187) rfl) rfl
theorem wL_L_157 : Cond.methodLink RL 157 yX5_clearText ∈ GW := tm2 (List.mem_of_getElem? (i := 188) rfl) rfl
theorem wI_X5_clearText : Cond.instanceMethod yX5_clearText ∈ GW := tm2 (List.mem_of_getElem? (i := 189) rfl) rfl
theorem wSe_X5_X5_clearText : Cond.selects RX5 yX5_clearText yX5_clearText ∈ GW := tm2 (List.mem_of_getElem? (i := 190) rfl) rfl
theorem wC_X5_clearText : Cond.code yX5_clearText cX5_clearText 2 (some .int) ∈ GW := tm2 (List.mem_of_getElem? (i := 191) rfl) rfl
theorem wL_X5_247 : Cond.methodLink RX5 247 yX2_clear ∈ GW := tm2 (List.mem_of_getElem? (i := 192) rfl) rfl
theorem wI_X2_clear : Cond.instanceMethod yX2_clear ∈ GW := tm2 (List.mem_of_getElem? (i := 193) rfl) rfl
theorem wSe_X2_X2_clear : Cond.selects RX2 yX2_clear yX2_clear ∈ GW := tm2 (List.mem_of_getElem? (i := 194) rfl) rfl
theorem wC_X2_clear : Cond.code yX2_clear cX2_clear 1 none ∈ GW := tm2 (List.mem_of_getElem? (i := 195) rfl) rfl
theorem wL_L_161 : Cond.methodLink RL 161 yX5_carryOut ∈ GW := tm2 (List.mem_of_getElem? (i := 196) rfl) rfl
theorem wI_X5_carryOut : Cond.instanceMethod yX5_carryOut ∈ GW := tm2 (List.mem_of_getElem? (i := 197) rfl) rfl
theorem wSe_X5_X5_carryOut : Cond.selects RX5 yX5_carryOut yX5_carryOut ∈ GW := tm2 (List.mem_of_getElem? (i := 198) rfl) rfl
theorem wC_X5_carryOut : Cond.code yX5_carryOut cX5_carryOut 3 (some .int) ∈ GW := tm2 (List.mem_of_getElem? (i := 199) rfl) rfl
theorem wL_X5_250 : Cond.methodLink RX5 250 yX2_syntaxError ∈ GW := tm2 (List.mem_of_getElem? (i := 200) rfl) rfl
theorem wI_X2_syntaxError : Cond.instanceMethod yX2_syntaxError ∈ GW := tm2 (List.mem_of_getElem? (i := 201) rfl) rfl
theorem wSe_X2_X2_syntaxError : Cond.selects RX2 yX2_syntaxError yX2_syntaxError ∈ GW := tm2 (List.mem_of_getElem? (i := 202) rfl) rfl
theorem wC_X2_syntaxError : Cond.code yX2_syntaxError cX2_syntaxError 2 (some .int) ∈ GW := tm2 (List.mem_of_getElem? (i := 203) rfl) rfl
theorem wL_X2_25 : Cond.methodLink RX2 25 yX2_rewind ∈ GW := tm2 (List.mem_of_getElem? (i := 204) rfl) rfl
theorem wI_X2_rewind : Cond.instanceMethod yX2_rewind ∈ GW := tm2 (List.mem_of_getElem? (i := 205) rfl) rfl
theorem wSe_X2_X2_rewind : Cond.selects RX2 yX2_rewind yX2_rewind ∈ GW := tm2 (List.mem_of_getElem? (i := 206) rfl) rfl
theorem wC_X2_rewind : Cond.code yX2_rewind cX2_rewind 1 none ∈ GW := tm2 (List.mem_of_getElem? (i := 207) rfl) rfl
theorem wL_X2_28 : Cond.methodLink RX2 28 yX2_readNext ∈ GW := tm2 (List.mem_of_getElem? (i := 208) rfl) rfl
theorem wI_X2_readNext : Cond.instanceMethod yX2_readNext ∈ GW := tm2 (List.mem_of_getElem? (i := 209) rfl) rfl
theorem wSe_X2_X2_readNext : Cond.selects RX2 yX2_readNext yX2_readNext ∈ GW := tm2 (List.mem_of_getElem? (i := 210) rfl) rfl
theorem wC_X2_readNext : Cond.code yX2_readNext cX2_readNext 1 (some .boolean) ∈ GW := tm2 (List.mem_of_getElem? (i := 211) rfl) rfl
theorem wL_X2_32 : Cond.methodLink RX2 32 yX2_peek ∈ GW := tm2 (List.mem_of_getElem? (i := 212) rfl) rfl
theorem wI_X2_peek : Cond.instanceMethod yX2_peek ∈ GW := tm2 (List.mem_of_getElem? (i := 214) rfl) rfl
theorem wC_X2_peek : Cond.code yX2_peek cX2_peek 1 (some .int) ∈ GW := tm2 (List.mem_of_getElem? (i := 215) rfl) rfl
theorem wL_X2_39 : Cond.methodLink RX2 39 yX2_readPromise ∈ GW := tm2 (List.mem_of_getElem? (i := 216) rfl) rfl
theorem wI_X2_readPromise : Cond.instanceMethod yX2_readPromise ∈ GW := tm2 (List.mem_of_getElem? (i := 218) rfl) rfl
theorem wC_X2_readPromise : Cond.code yX2_readPromise cX2_readPromise 1 (some .boolean) ∈ GW := tm2 (List.mem_of_getElem? (i := 219) rfl) rfl
theorem wL_X2_56 : Cond.methodLink RX2 56 yX2_readDigit ∈ GW := tm2 (List.mem_of_getElem? (i := 220) rfl) rfl
theorem wI_X2_readDigit : Cond.instanceMethod yX2_readDigit ∈ GW := tm2 (List.mem_of_getElem? (i := 222) rfl) rfl
theorem wC_X2_readDigit : Cond.code yX2_readDigit cX2_readDigit 4 (some .int) ∈ GW := tm2 (List.mem_of_getElem? (i := 223) rfl) rfl
theorem wL_X2_53 : Cond.methodLink RX2 53 yX2_fail ∈ GW := tm2 (List.mem_of_getElem? (i := 224) rfl) rfl
theorem wI_X2_fail : Cond.instanceMethod yX2_fail ∈ GW := tm2 (List.mem_of_getElem? (i := 226) rfl) rfl
theorem wC_X2_fail : Cond.code yX2_fail cX2_fail 2 (some .boolean) ∈ GW := tm2 (List.mem_of_getElem? (i := 227) rfl) rfl
theorem wL_X2_49 : Cond.methodLink RX2 49 yX2_readSign ∈ GW := tm2 (List.mem_of_getElem? (i := 228) rfl) rfl
theorem wI_X2_readSign : Cond.instanceMethod yX2_readSign ∈ GW := tm2 (List.mem_of_getElem? (i := 230) rfl) rfl
theorem wC_X2_readSign : Cond.code yX2_readSign cX2_readSign 2 (some .boolean) ∈ GW := tm2 (List.mem_of_getElem? (i := 231) rfl) rfl
theorem wL_X2_42 : Cond.methodLink RX2 42 yX2_readNumber ∈ GW := tm2 (List.mem_of_getElem? (i := 232) rfl) rfl
theorem wI_X2_readNumber : Cond.instanceMethod yX2_readNumber ∈ GW := tm2 (List.mem_of_getElem? (i := 234) rfl) rfl
theorem wC_X2_readNumber : Cond.code yX2_readNumber cX2_readNumber 7 (some .int) ∈ GW := tm2 (List.mem_of_getElem? (i := 235) rfl) rfl
theorem wL_X2_72 : Cond.methodLink RX2 72 yX2_isDigit ∈ GW := tm2 (List.mem_of_getElem? (i := 236) rfl) rfl
theorem wS_X2_isDigit : Cond.static yX2_isDigit ∈ GW := tm2 (List.mem_of_getElem? (i := 237) rfl) rfl
theorem wC_X2_isDigit : Cond.code yX2_isDigit cX2_isDigit 1 (some .boolean) ∈ GW := tm2 (List.mem_of_getElem? (i := 238) rfl) rfl
theorem wL_X5_253 : Cond.methodLink RX5 253 yX2_rewind ∈ GW := tm2 (List.mem_of_getElem? (i := 239) rfl) rfl
theorem wL_X5_256 : Cond.methodLink RX5 256 yX2_readNext ∈ GW := tm3 (List.mem_of_getElem? (i := 0) rfl) rfl
theorem wL_X5_259 : Cond.methodLink RX5 259 yX5_carryOutOrder ∈ GW := tm3 (List.mem_of_getElem? (i := 1) rfl) rfl
theorem wI_X5_carryOutOrder : Cond.instanceMethod yX5_carryOutOrder ∈ GW := tm3 (List.mem_of_getElem? (i := 3) rfl) rfl
theorem wC_X5_carryOutOrder : Cond.code yX5_carryOutOrder cX5_carryOutOrder 1 (some .boolean) ∈ GW := tm3 (List.mem_of_getElem? (i := 4) rfl) rfl
theorem wL_X5_289 : Cond.methodLink RX5 289 yX5_makeOrdered ∈ GW := tm3 (List.mem_of_getElem? (i := 5) rfl) rfl
theorem wI_X5_makeOrdered : Cond.instanceMethod yX5_makeOrdered ∈ GW := tm3 (List.mem_of_getElem? (i := 7) rfl) rfl
theorem wC_X5_makeOrdered : Cond.code yX5_makeOrdered cX5_makeOrdered 1 (some .boolean) ∈ GW := tm3 (List.mem_of_getElem? (i := 8) rfl) rfl
theorem wL_X5_62 : Cond.methodLink RX5 62 yX0_hasParty ∈ GW := tm3 (List.mem_of_getElem? (i := 9) rfl) rfl
theorem wI_X0_hasParty : Cond.instanceMethod yX0_hasParty ∈ GW := tm3 (List.mem_of_getElem? (i := 10) rfl) rfl
theorem wSe_X0_X0_hasParty : Cond.selects RX0 yX0_hasParty yX0_hasParty ∈ GW := tm3 (List.mem_of_getElem? (i := 11) rfl) rfl
theorem wC_X0_hasParty : Cond.code yX0_hasParty cX0_hasParty 2 (some .boolean) ∈ GW := tm3 (List.mem_of_getElem? (i := 12) rfl) rfl
theorem wL_X5_77 : Cond.methodLink RX5 77 yX0_isFull ∈ GW := tm3 (List.mem_of_getElem? (i := 13) rfl) rfl
theorem wI_X0_isFull : Cond.instanceMethod yX0_isFull ∈ GW := tm3 (List.mem_of_getElem? (i := 14) rfl) rfl
theorem wSe_X0_X0_isFull : Cond.selects RX0 yX0_isFull yX0_isFull ∈ GW := tm3 (List.mem_of_getElem? (i := 15) rfl) rfl
theorem wC_X0_isFull : Cond.code yX0_isFull cX0_isFull 1 (some .boolean) ∈ GW := tm3 (List.mem_of_getElem? (i := 16) rfl) rfl
theorem wL_X5_71 : Cond.methodLink RX5 71 yX5_canBePromised ∈ GW := tm3 (List.mem_of_getElem? (i := 17) rfl) rfl
theorem wS_X5_canBePromised : Cond.static yX5_canBePromised ∈ GW := tm3 (List.mem_of_getElem? (i := 18) rfl) rfl
theorem wC_X5_canBePromised : Cond.code yX5_canBePromised cX5_canBePromised 4 (some .boolean) ∈ GW := tm3 (List.mem_of_getElem? (i := 19) rfl) rfl
theorem wL_X5_86 : Cond.methodLink RX5 86 yX0_add ∈ GW := tm3 (List.mem_of_getElem? (i := 20) rfl) rfl
theorem wI_X0_add : Cond.instanceMethod yX0_add ∈ GW := tm3 (List.mem_of_getElem? (i := 21) rfl) rfl
theorem wSe_X0_X0_add : Cond.selects RX0 yX0_add yX0_add ∈ GW := tm3 (List.mem_of_getElem? (i := 22) rfl) rfl
theorem wC_X0_add : Cond.code yX0_add cX0_add 6 (some .int) ∈ GW := tm3 (List.mem_of_getElem? (i := 23) rfl) rfl
theorem wLN_X0_59 : Cond.methodLinkNest RX0 59 yX5_isSlot RX5 ∈ lw_tbl := tm30 (List.mem_of_getElem? (i := 24) rfl)
theorem wL_X5_295 : Cond.methodLink RX5 295 yX5_disputeOrdered ∈ GW := tm3 (List.mem_of_getElem? (i := 25) rfl) rfl
theorem wI_X5_disputeOrdered : Cond.instanceMethod yX5_disputeOrdered ∈ GW := tm3 (List.mem_of_getElem? (i := 27) rfl) rfl
theorem wC_X5_disputeOrdered : Cond.code yX5_disputeOrdered cX5_disputeOrdered 2 (some .boolean) ∈ GW := tm3 (List.mem_of_getElem? (i := 28) rfl) rfl
theorem wL_X5_90 : Cond.methodLink RX5 90 yX0_holds ∈ GW := tm3 (List.mem_of_getElem? (i := 29) rfl) rfl
theorem wL_X5_107 : Cond.methodLink RX5 107 yX0_canBeDisputed ∈ GW := tm3 (List.mem_of_getElem? (i := 30) rfl) rfl
theorem wI_X0_canBeDisputed : Cond.instanceMethod yX0_canBeDisputed ∈ GW := tm3 (List.mem_of_getElem? (i := 31) rfl) rfl
theorem wSe_X0_X0_canBeDisputed : Cond.selects RX0 yX0_canBeDisputed yX0_canBeDisputed ∈ GW := tm3 (List.mem_of_getElem? (i := 32) rfl) rfl
theorem wC_X0_canBeDisputed : Cond.code yX0_canBeDisputed cX0_canBeDisputed 2 (some .boolean) ∈ GW := tm3 (List.mem_of_getElem? (i := 33) rfl) rfl
theorem wL_X0_66 : Cond.methodLink RX0 66 yX0_isOwing ∈ GW := tm3 (List.mem_of_getElem? (i := 34) rfl) rfl
theorem wL_X5_298 : Cond.methodLink RX5 298 yX5_settleOrdered ∈ GW := tm3 (List.mem_of_getElem? (i := 35) rfl) rfl
theorem wI_X5_settleOrdered : Cond.instanceMethod yX5_settleOrdered ∈ GW := tm3 (List.mem_of_getElem? (i := 37) rfl) rfl
theorem wC_X5_settleOrdered : Cond.code yX5_settleOrdered cX5_settleOrdered 2 (some .boolean) ∈ GW := tm3 (List.mem_of_getElem? (i := 38) rfl) rfl
theorem wL_X5_138 : Cond.methodLink RX5 138 yX4_releaseBest ∈ GW := tm3 (List.mem_of_getElem? (i := 39) rfl) rfl
theorem wI_X4_releaseBest : Cond.instanceMethod yX4_releaseBest ∈ GW := tm3 (List.mem_of_getElem? (i := 40) rfl) rfl
theorem wSe_X4_X4_releaseBest : Cond.selects RX4 yX4_releaseBest yX4_releaseBest ∈ GW := tm3 (List.mem_of_getElem? (i := 41) rfl) rfl
theorem wC_X4_releaseBest : Cond.code yX4_releaseBest cX4_releaseBest 3 (some .int) ∈ GW := tm3 (List.mem_of_getElem? (i := 42) rfl) rfl
theorem wL_L_168 : Cond.methodLink RL 168 yX5_digest ∈ GW := tm3 (List.mem_of_getElem? (i := 43) rfl) rfl
theorem wI_X5_digest : Cond.instanceMethod yX5_digest ∈ GW := tm3 (List.mem_of_getElem? (i := 44) rfl) rfl
theorem wSe_X5_X5_digest : Cond.selects RX5 yX5_digest yX5_digest ∈ GW := tm3 (List.mem_of_getElem? (i := 45) rfl) rfl
theorem wC_X5_digest : Cond.code yX5_digest cX5_digest 5 (some .long) ∈ GW := tm3 (List.mem_of_getElem? (i := 46) rfl) rfl
theorem wN_X5_267 : Cond.constantLong RX5 267 114731 ∈ GW := tm3 (List.mem_of_getElem? (i := 47) rfl) rfl
theorem wN_X5_269 : Cond.constantLong RX5 269 31 ∈ GW := tm3 (List.mem_of_getElem? (i := 48) rfl) rfl
theorem wL_X5_271 : Cond.methodLink RX5 271 yX5_value ∈ GW := tm3 (List.mem_of_getElem? (i := 49) rfl) rfl
theorem wI_X5_value : Cond.instanceMethod yX5_value ∈ GW := tm3 (List.mem_of_getElem? (i := 50) rfl) rfl
theorem wSe_X5_X5_value : Cond.selects RX5 yX5_value yX5_value ∈ GW := tm3 (List.mem_of_getElem? (i := 51) rfl) rfl
theorem wC_X5_value : Cond.code yX5_value cX5_value 2 (some .int) ∈ GW := tm3 (List.mem_of_getElem? (i := 52) rfl) rfl
theorem wL_X5_180 : Cond.methodLink RX5 180 yX0_countOpen ∈ GW := tm3 (List.mem_of_getElem? (i := 53) rfl) rfl
theorem wI_X0_countOpen : Cond.instanceMethod yX0_countOpen ∈ GW := tm3 (List.mem_of_getElem? (i := 54) rfl) rfl
theorem wSe_X0_X0_countOpen : Cond.selects RX0 yX0_countOpen yX0_countOpen ∈ GW := tm3 (List.mem_of_getElem? (i := 55) rfl) rfl
theorem wC_X0_countOpen : Cond.code yX0_countOpen cX0_countOpen 3 (some .int) ∈ GW := tm3 (List.mem_of_getElem? (i := 56) rfl) rfl
theorem wL_X5_183 : Cond.methodLink RX5 183 yX0_countDisputed ∈ GW := tm3 (List.mem_of_getElem? (i := 57) rfl) rfl
theorem wI_X0_countDisputed : Cond.instanceMethod yX0_countDisputed ∈ GW := tm3 (List.mem_of_getElem? (i := 58) rfl) rfl
theorem wSe_X0_X0_countDisputed : Cond.selects RX0 yX0_countDisputed yX0_countDisputed ∈ GW := tm3 (List.mem_of_getElem? (i := 59) rfl) rfl
theorem wC_X0_countDisputed : Cond.code yX0_countDisputed cX0_countDisputed 3 (some .int) ∈ GW := tm3 (List.mem_of_getElem? (i := 60) rfl) rfl
theorem wL_X5_186 : Cond.methodLink RX5 186 yX0_sumOfAmounts ∈ GW := tm3 (List.mem_of_getElem? (i := 61) rfl) rfl
theorem wI_X0_sumOfAmounts : Cond.instanceMethod yX0_sumOfAmounts ∈ GW := tm3 (List.mem_of_getElem? (i := 62) rfl) rfl
theorem wSe_X0_X0_sumOfAmounts : Cond.selects RX0 yX0_sumOfAmounts yX0_sumOfAmounts ∈ GW := tm3 (List.mem_of_getElem? (i := 63) rfl) rfl
theorem wC_X0_sumOfAmounts : Cond.code yX0_sumOfAmounts cX0_sumOfAmounts 3 (some .int) ∈ GW := tm3 (List.mem_of_getElem? (i := 64) rfl) rfl
theorem wL_X5_112 : Cond.methodLink RX5 112 yX5_countRings ∈ GW := tm3 (List.mem_of_getElem? (i := 65) rfl) rfl
theorem wI_X5_countRings : Cond.instanceMethod yX5_countRings ∈ GW := tm3 (List.mem_of_getElem? (i := 67) rfl) rfl
theorem wC_X5_countRings : Cond.code yX5_countRings cX5_countRings 1 (some .int) ∈ GW := tm3 (List.mem_of_getElem? (i := 68) rfl) rfl
theorem wL_X5_201 : Cond.methodLink RX5 201 yX0_sumOfGains ∈ GW := tm3 (List.mem_of_getElem? (i := 69) rfl) rfl
theorem wI_X0_sumOfGains : Cond.instanceMethod yX0_sumOfGains ∈ GW := tm3 (List.mem_of_getElem? (i := 70) rfl) rfl
theorem wSe_X0_X0_sumOfGains : Cond.selects RX0 yX0_sumOfGains yX0_sumOfGains ∈ GW := tm3 (List.mem_of_getElem? (i := 71) rfl) rfl
theorem wC_X0_sumOfGains : Cond.code yX0_sumOfGains cX0_sumOfGains 3 (some .int) ∈ GW := tm3 (List.mem_of_getElem? (i := 72) rfl) rfl
theorem wL_X0_69 : Cond.methodLink RX0 69 yX0_netOf ∈ GW := tm3 (List.mem_of_getElem? (i := 73) rfl) rfl
theorem wI_X0_netOf : Cond.instanceMethod yX0_netOf ∈ GW := tm3 (List.mem_of_getElem? (i := 74) rfl) rfl
theorem wSe_X0_X0_netOf : Cond.selects RX0 yX0_netOf yX0_netOf ∈ GW := tm3 (List.mem_of_getElem? (i := 75) rfl) rfl
theorem wC_X0_netOf : Cond.code yX0_netOf cX0_netOf 4 (some .int) ∈ GW := tm3 (List.mem_of_getElem? (i := 76) rfl) rfl
theorem wL_X0_73 : Cond.methodLink RX0 73 yJ9_max_7cf53 ∈ GW := tm3 (List.mem_of_getElem? (i := 77) rfl) rfl
theorem wS_J9_max_7cf53 : Cond.static yJ9_max_7cf53 ∈ GW := tm3 (List.mem_of_getElem? (i := 78) rfl) rfl
theorem wC_J9_max_7cf53 : Cond.code yJ9_max_7cf53 cJ9_max_7cf53 2 (some .int) ∈ GW := tm3 (List.mem_of_getElem? (i := 79) rfl) rfl
theorem wK_X5_44 : Cond.classLink RX5 44 "java/lang/IllegalArgumentException" ∈ GW := tm3 (List.mem_of_getElem? (i := 80) rfl) rfl
theorem wIb_IllegalArgumentException : Cond.instantiable "java/lang/IllegalArgumentException" 6 ∈ GW := tm3 (List.mem_of_getElem? (i := 81) rfl) rfl
theorem wSe_IllegalArgumentException_Throwable_fillInStackTrace_I_Ljava_lang_Throwable_ : Cond.selects "java/lang/IllegalArgumentException" ⟨"java/lang/Throwable", "fillInStackTrace", "(I)Ljava/lang/Throwable;"⟩ ⟨"java/lang/Throwable", "fillInStackTrace", "(I)Ljava/lang/Throwable;"⟩ ∈ GW := tm3 (List.mem_of_getElem? (i := 89) rfl) rfl
theorem wSe_IllegalArgumentException_Throwable_fillInStackTrace__Ljava_lang_Throwable_ : Cond.selects "java/lang/IllegalArgumentException" ⟨"java/lang/Throwable", "fillInStackTrace", "()Ljava/lang/Throwable;"⟩ ⟨"java/lang/Throwable", "fillInStackTrace", "()Ljava/lang/Throwable;"⟩ ∈ GW := tm3 (List.mem_of_getElem? (i := 90) rfl) rfl
theorem wY_IllegalArgumentException_cause : Cond.lays "java/lang/IllegalArgumentException" "java/lang/Throwable" "cause" "Ljava/lang/Throwable;" ∈ GW := tm3 (List.mem_of_getElem? (i := 91) rfl) rfl
theorem wY_Throwable_cause : Cond.lays "java/lang/Throwable" "java/lang/Throwable" "cause" "Ljava/lang/Throwable;" ∈ GW := tm3 (List.mem_of_getElem? (i := 92) rfl) rfl
theorem wY_IllegalArgumentException_stackTrace : Cond.lays "java/lang/IllegalArgumentException" "java/lang/Throwable" "stackTrace" "[Ljava/lang/StackTraceElement;" ∈ GW := tm3 (List.mem_of_getElem? (i := 93) rfl) rfl
theorem wY_Throwable_stackTrace : Cond.lays "java/lang/Throwable" "java/lang/Throwable" "stackTrace" "[Ljava/lang/StackTraceElement;" ∈ GW := tm3 (List.mem_of_getElem? (i := 94) rfl) rfl
theorem wY_IllegalArgumentException_suppressedExceptions : Cond.lays "java/lang/IllegalArgumentException" "java/lang/Throwable" "suppressedExceptions" "Ljava/util/List;" ∈ GW := tm3 (List.mem_of_getElem? (i := 95) rfl) rfl
theorem wY_Throwable_suppressedExceptions : Cond.lays "java/lang/Throwable" "java/lang/Throwable" "suppressedExceptions" "Ljava/util/List;" ∈ GW := tm3 (List.mem_of_getElem? (i := 96) rfl) rfl
theorem wY_IllegalArgumentException_detailMessage : Cond.lays "java/lang/IllegalArgumentException" "java/lang/Throwable" "detailMessage" "Ljava/lang/String;" ∈ GW := tm3 (List.mem_of_getElem? (i := 97) rfl) rfl
theorem wY_Throwable_detailMessage : Cond.lays "java/lang/Throwable" "java/lang/Throwable" "detailMessage" "Ljava/lang/String;" ∈ GW := tm3 (List.mem_of_getElem? (i := 98) rfl) rfl
theorem wY_IllegalArgumentException_backtrace : Cond.lays "java/lang/IllegalArgumentException" "java/lang/Throwable" "backtrace" "Ljava/lang/Object;" ∈ GW := tm3 (List.mem_of_getElem? (i := 99) rfl) rfl
theorem wY_Throwable_backtrace : Cond.lays "java/lang/Throwable" "java/lang/Throwable" "backtrace" "Ljava/lang/Object;" ∈ GW := tm3 (List.mem_of_getElem? (i := 100) rfl) rfl
theorem wF_Throwable_198 : Cond.fieldLink "java/lang/Throwable" 198 "java/lang/Throwable" "backtrace" "Ljava/lang/Object;" ∈ GW := tm3 (List.mem_of_getElem? (i := 101) rfl) rfl
theorem wI_Throwable__init___V : Cond.instanceMethod ⟨"java/lang/Throwable", "<init>", "()V"⟩ ∈ GW := tm3 (List.mem_of_getElem? (i := 103) rfl) rfl
theorem wC_Throwable__init___V : Cond.code ⟨"java/lang/Throwable", "<init>", "()V"⟩ prog_17_method_1_code 1 none ∈ GW := tm3 (List.mem_of_getElem? (i := 104) rfl) rfl
theorem wL_Throwable_1 : Cond.methodLink "java/lang/Throwable" 1 ⟨"java/lang/Object", "<init>", "()V"⟩ ∈ GW := tm3 (List.mem_of_getElem? (i := 105) rfl) rfl
theorem wF_Throwable_13 : Cond.fieldLink "java/lang/Throwable" 13 "java/lang/Throwable" "UNASSIGNED_STACK" "[Ljava/lang/StackTraceElement;" ∈ GW := tm3 (List.mem_of_getElem? (i := 106) rfl) rfl
theorem wF_Throwable_20 : Cond.fieldLink "java/lang/Throwable" 20 "java/lang/Throwable" "SUPPRESSED_SENTINEL" "Ljava/util/List;" ∈ GW := tm3 (List.mem_of_getElem? (i := 108) rfl) rfl
theorem wL_Throwable_27 : Cond.methodLink "java/lang/Throwable" 27 ⟨"java/lang/Throwable", "fillInStackTrace", "()Ljava/lang/Throwable;"⟩ ∈ GW := tm3 (List.mem_of_getElem? (i := 110) rfl) rfl
theorem wI_Throwable_fillInStackTrace__Ljava_lang_Throwable_ : Cond.instanceMethod ⟨"java/lang/Throwable", "fillInStackTrace", "()Ljava/lang/Throwable;"⟩ ∈ GW := tm3 (List.mem_of_getElem? (i := 111) rfl) rfl
theorem wSe_IllegalStateException_Throwable_fillInStackTrace__Ljava_lang_Throwable_ : Cond.selects "java/lang/IllegalStateException" ⟨"java/lang/Throwable", "fillInStackTrace", "()Ljava/lang/Throwable;"⟩ ⟨"java/lang/Throwable", "fillInStackTrace", "()Ljava/lang/Throwable;"⟩ ∈ GW := tm3 (List.mem_of_getElem? (i := 113) rfl) rfl
theorem wSe_IndexOutOfBoundsException_Throwable_fillInStackTrace__Ljava_lang_Throwable_ : Cond.selects "java/lang/IndexOutOfBoundsException" ⟨"java/lang/Throwable", "fillInStackTrace", "()Ljava/lang/Throwable;"⟩ ⟨"java/lang/Throwable", "fillInStackTrace", "()Ljava/lang/Throwable;"⟩ ∈ GW := tm3 (List.mem_of_getElem? (i := 114) rfl) rfl
theorem wL_Throwable_202 : Cond.methodLink "java/lang/Throwable" 202 ⟨"java/lang/Throwable", "fillInStackTrace", "(I)Ljava/lang/Throwable;"⟩ ∈ GW := tm3 (List.mem_of_getElem? (i := 116) rfl) rfl
theorem wI_Throwable_fillInStackTrace_I_Ljava_lang_Throwable_ : Cond.instanceMethod ⟨"java/lang/Throwable", "fillInStackTrace", "(I)Ljava/lang/Throwable;"⟩ ∈ GW := tm3 (List.mem_of_getElem? (i := 118) rfl) rfl
theorem wIb_Throwable : Cond.instantiable "java/lang/Throwable" 6 ∈ GW := tm3 (List.mem_of_getElem? (i := 119) rfl) rfl
theorem wNa_Throwable_fillInStackTrace_I_Ljava_lang_Throwable_ : Cond.native ⟨"java/lang/Throwable", "fillInStackTrace", "(I)Ljava/lang/Throwable;"⟩ ∈ GW := tm3 (List.mem_of_getElem? (i := 120) rfl) rfl
theorem wL_X5_48 : Cond.methodLink RX5 48 ⟨"java/lang/IllegalArgumentException", "<init>", "(Ljava/lang/String;)V"⟩ ∈ GW := tm3 (List.mem_of_getElem? (i := 122) rfl) rfl
theorem wI_IllegalArgumentException__init__Ljava_lang_String__V : Cond.instanceMethod ⟨"java/lang/IllegalArgumentException", "<init>", "(Ljava/lang/String;)V"⟩ ∈ GW := tm3 (List.mem_of_getElem? (i := 123) rfl) rfl
theorem wC_IllegalArgumentException__init__Ljava_lang_String__V : Cond.code ⟨"java/lang/IllegalArgumentException", "<init>", "(Ljava/lang/String;)V"⟩ prog_10_method_2_code 2 none ∈ GW := tm3 (List.mem_of_getElem? (i := 124) rfl) rfl
theorem wL_IllegalArgumentException_7 : Cond.methodLink "java/lang/IllegalArgumentException" 7 ⟨"java/lang/RuntimeException", "<init>", "(Ljava/lang/String;)V"⟩ ∈ GW := tm3 (List.mem_of_getElem? (i := 125) rfl) rfl
theorem wI_RuntimeException__init__Ljava_lang_String__V : Cond.instanceMethod ⟨"java/lang/RuntimeException", "<init>", "(Ljava/lang/String;)V"⟩ ∈ GW := tm3 (List.mem_of_getElem? (i := 126) rfl) rfl
theorem wC_RuntimeException__init__Ljava_lang_String__V : Cond.code ⟨"java/lang/RuntimeException", "<init>", "(Ljava/lang/String;)V"⟩ prog_14_method_2_code 2 none ∈ GW := tm3 (List.mem_of_getElem? (i := 127) rfl) rfl
theorem wL_RuntimeException_7 : Cond.methodLink "java/lang/RuntimeException" 7 ⟨"java/lang/Exception", "<init>", "(Ljava/lang/String;)V"⟩ ∈ GW := tm3 (List.mem_of_getElem? (i := 128) rfl) rfl
theorem wI_Exception__init__Ljava_lang_String__V : Cond.instanceMethod ⟨"java/lang/Exception", "<init>", "(Ljava/lang/String;)V"⟩ ∈ GW := tm3 (List.mem_of_getElem? (i := 129) rfl) rfl
theorem wC_Exception__init__Ljava_lang_String__V : Cond.code ⟨"java/lang/Exception", "<init>", "(Ljava/lang/String;)V"⟩ prog_9_method_2_code 2 none ∈ GW := tm3 (List.mem_of_getElem? (i := 130) rfl) rfl
theorem wL_Exception_7 : Cond.methodLink "java/lang/Exception" 7 ⟨"java/lang/Throwable", "<init>", "(Ljava/lang/String;)V"⟩ ∈ GW := tm3 (List.mem_of_getElem? (i := 131) rfl) rfl
theorem wI_Throwable__init__Ljava_lang_String__V : Cond.instanceMethod ⟨"java/lang/Throwable", "<init>", "(Ljava/lang/String;)V"⟩ ∈ GW := tm3 (List.mem_of_getElem? (i := 132) rfl) rfl
theorem wC_Throwable__init__Ljava_lang_String__V : Cond.code ⟨"java/lang/Throwable", "<init>", "(Ljava/lang/String;)V"⟩ prog_17_method_2_code 2 none ∈ GW := tm3 (List.mem_of_getElem? (i := 133) rfl) rfl
theorem wF_Throwable_31 : Cond.fieldLink "java/lang/Throwable" 31 "java/lang/Throwable" "detailMessage" "Ljava/lang/String;" ∈ GW := tm3 (List.mem_of_getElem? (i := 135) rfl) rfl
theorem wF_Throwable_7 : Cond.fieldLink "java/lang/Throwable" 7 "java/lang/Throwable" "cause" "Ljava/lang/Throwable;" ∈ GW := tm3 (List.mem_of_getElem? (i := 136) rfl) rfl
theorem wF_Throwable_17 : Cond.fieldLink "java/lang/Throwable" 17 "java/lang/Throwable" "stackTrace" "[Ljava/lang/StackTraceElement;" ∈ GW := tm3 (List.mem_of_getElem? (i := 137) rfl) rfl
theorem wF_Throwable_24 : Cond.fieldLink "java/lang/Throwable" 24 "java/lang/Throwable" "suppressedExceptions" "Ljava/util/List;" ∈ GW := tm3 (List.mem_of_getElem? (i := 138) rfl) rfl
theorem wY_IllegalArgumentException_depth : Cond.lays "java/lang/IllegalArgumentException" "java/lang/Throwable" "depth" "I" ∈ GW := tm3 (List.mem_of_getElem? (i := 143) rfl) rfl
theorem wA__byte : Cond.arrayClass .byte ∈ GW := tm3 (List.mem_of_getElem? (i := 147) rfl) rfl
theorem wL_X5_274 : Cond.methodLink RX5 274 yX5_promiseOf ∈ GW := tm3 (List.mem_of_getElem? (i := 148) rfl) rfl
theorem wI_X5_promiseOf : Cond.instanceMethod yX5_promiseOf ∈ GW := tm3 (List.mem_of_getElem? (i := 149) rfl) rfl
theorem wSe_X5_X5_promiseOf : Cond.selects RX5 yX5_promiseOf yX5_promiseOf ∈ GW := tm3 (List.mem_of_getElem? (i := 150) rfl) rfl
theorem wC_X5_promiseOf : Cond.code yX5_promiseOf cX5_promiseOf 3 (some .int) ∈ GW := tm3 (List.mem_of_getElem? (i := 151) rfl) rfl
theorem wK_X5_66 : Cond.classLink RX5 66 "java/lang/IndexOutOfBoundsException" ∈ GW := tm3 (List.mem_of_getElem? (i := 152) rfl) rfl
theorem wIb_IndexOutOfBoundsException : Cond.instantiable "java/lang/IndexOutOfBoundsException" 6 ∈ GW := tm3 (List.mem_of_getElem? (i := 153) rfl) rfl
theorem wSe_IndexOutOfBoundsException_Throwable_fillInStackTrace_I_Ljava_lang_Throwable_ : Cond.selects "java/lang/IndexOutOfBoundsException" ⟨"java/lang/Throwable", "fillInStackTrace", "(I)Ljava/lang/Throwable;"⟩ ⟨"java/lang/Throwable", "fillInStackTrace", "(I)Ljava/lang/Throwable;"⟩ ∈ GW := tm3 (List.mem_of_getElem? (i := 155) rfl) rfl
theorem wY_IndexOutOfBoundsException_cause : Cond.lays "java/lang/IndexOutOfBoundsException" "java/lang/Throwable" "cause" "Ljava/lang/Throwable;" ∈ GW := tm3 (List.mem_of_getElem? (i := 156) rfl) rfl
theorem wY_IndexOutOfBoundsException_stackTrace : Cond.lays "java/lang/IndexOutOfBoundsException" "java/lang/Throwable" "stackTrace" "[Ljava/lang/StackTraceElement;" ∈ GW := tm3 (List.mem_of_getElem? (i := 157) rfl) rfl
theorem wY_IndexOutOfBoundsException_suppressedExceptions : Cond.lays "java/lang/IndexOutOfBoundsException" "java/lang/Throwable" "suppressedExceptions" "Ljava/util/List;" ∈ GW := tm3 (List.mem_of_getElem? (i := 158) rfl) rfl
theorem wY_IndexOutOfBoundsException_detailMessage : Cond.lays "java/lang/IndexOutOfBoundsException" "java/lang/Throwable" "detailMessage" "Ljava/lang/String;" ∈ GW := tm3 (List.mem_of_getElem? (i := 159) rfl) rfl
theorem wY_IndexOutOfBoundsException_backtrace : Cond.lays "java/lang/IndexOutOfBoundsException" "java/lang/Throwable" "backtrace" "Ljava/lang/Object;" ∈ GW := tm3 (List.mem_of_getElem? (i := 160) rfl) rfl
theorem wL_X5_70 : Cond.methodLink RX5 70 ⟨"java/lang/IndexOutOfBoundsException", "<init>", "(Ljava/lang/String;)V"⟩ ∈ GW := tm3 (List.mem_of_getElem? (i := 162) rfl) rfl
theorem wI_IndexOutOfBoundsException__init__Ljava_lang_String__V : Cond.instanceMethod ⟨"java/lang/IndexOutOfBoundsException", "<init>", "(Ljava/lang/String;)V"⟩ ∈ GW := tm3 (List.mem_of_getElem? (i := 163) rfl) rfl
theorem wC_IndexOutOfBoundsException__init__Ljava_lang_String__V : Cond.code ⟨"java/lang/IndexOutOfBoundsException", "<init>", "(Ljava/lang/String;)V"⟩ prog_12_method_2_code 2 none ∈ GW := tm3 (List.mem_of_getElem? (i := 164) rfl) rfl
theorem wL_IndexOutOfBoundsException_7 : Cond.methodLink "java/lang/IndexOutOfBoundsException" 7 ⟨"java/lang/RuntimeException", "<init>", "(Ljava/lang/String;)V"⟩ ∈ GW := tm3 (List.mem_of_getElem? (i := 165) rfl) rfl
theorem wY_IndexOutOfBoundsException_depth : Cond.lays "java/lang/IndexOutOfBoundsException" "java/lang/Throwable" "depth" "I" ∈ GW := tm3 (List.mem_of_getElem? (i := 166) rfl) rfl
theorem wL_X5_169 : Cond.methodLink RX5 169 yX0_netOf ∈ GW := tm3 (List.mem_of_getElem? (i := 169) rfl) rfl
theorem wL_X5_165 : Cond.methodLink RX5 165 yX0_debtBetween ∈ GW := tm3 (List.mem_of_getElem? (i := 170) rfl) rfl
theorem wI_X0_debtBetween : Cond.instanceMethod yX0_debtBetween ∈ GW := tm3 (List.mem_of_getElem? (i := 171) rfl) rfl
theorem wSe_X0_X0_debtBetween : Cond.selects RX0 yX0_debtBetween yX0_debtBetween ∈ GW := tm3 (List.mem_of_getElem? (i := 172) rfl) rfl
theorem wC_X0_debtBetween : Cond.code yX0_debtBetween cX0_debtBetween 5 (some .int) ∈ GW := tm3 (List.mem_of_getElem? (i := 173) rfl) rfl
theorem wL_X5_277 : Cond.methodLink RX5 277 yX5_bestRing ∈ GW := tm3 (List.mem_of_getElem? (i := 174) rfl) rfl
theorem wL_L_77 : Cond.methodLink RL 77 yL_begin ∈ GW := tm3 (List.mem_of_getElem? (i := 175) rfl) rfl
theorem wS_L_begin : Cond.static yL_begin ∈ GW := tm3 (List.mem_of_getElem? (i := 176) rfl) rfl
theorem wC_L_begin : Cond.codeWith yL_begin cL_begin 4 (some .int) [(0, 9, 12, 13)] ∈ GW := tm3 (List.mem_of_getElem? (i := 177) rfl) rfl
theorem wK_L_13 : Cond.classLink RL 13 "java/lang/IllegalArgumentException" ∈ GW := tm3 (List.mem_of_getElem? (i := 178) rfl) rfl
theorem wL_L_7 : Cond.methodLink RL 7 yX5_begin ∈ GW := tm3 (List.mem_of_getElem? (i := 179) rfl) rfl
theorem wI_X5_begin : Cond.instanceMethod yX5_begin ∈ GW := tm3 (List.mem_of_getElem? (i := 180) rfl) rfl
theorem wSe_X5_X5_begin : Cond.selects RX5 yX5_begin yX5_begin ∈ GW := tm3 (List.mem_of_getElem? (i := 181) rfl) rfl
theorem wC_X5_begin : Cond.code yX5_begin cX5_begin 3 (some .int) ∈ GW := tm3 (List.mem_of_getElem? (i := 182) rfl) rfl
theorem wL_X5_58 : Cond.methodLink RX5 58 yX0_restart ∈ GW := tm3 (List.mem_of_getElem? (i := 184) rfl) rfl
theorem wI_X0_restart : Cond.instanceMethod yX0_restart ∈ GW := tm3 (List.mem_of_getElem? (i := 185) rfl) rfl
theorem wSe_X0_X0_restart : Cond.selects RX0 yX0_restart yX0_restart ∈ GW := tm3 (List.mem_of_getElem? (i := 186) rfl) rfl
theorem wC_X0_restart : Cond.code yX0_restart cX0_restart 2 none ∈ GW := tm3 (List.mem_of_getElem? (i := 187) rfl) rfl
theorem wL_L_86 : Cond.methodLink RL 86 yL_promise ∈ GW := tm3 (List.mem_of_getElem? (i := 188) rfl) rfl
theorem wS_L_promise : Cond.static yL_promise ∈ GW := tm3 (List.mem_of_getElem? (i := 189) rfl) rfl
theorem wC_L_promise : Cond.codeWith yL_promise cL_promise 7 (some .int) [(0, 14, 17, 19), (0, 14, 21, 13), (0, 14, 25, 21)] ∈ GW := tm3 (List.mem_of_getElem? (i := 190) rfl) rfl
theorem wK_L_19 : Cond.classLink RL 19 "java/lang/IndexOutOfBoundsException" ∈ GW := tm3 (List.mem_of_getElem? (i := 191) rfl) rfl
theorem wK_L_21 : Cond.classLink RL 21 "java/lang/IllegalStateException" ∈ GW := tm3 (List.mem_of_getElem? (i := 192) rfl) rfl
theorem wL_L_15 : Cond.methodLink RL 15 yX5_promise ∈ GW := tm3 (List.mem_of_getElem? (i := 193) rfl) rfl
theorem wI_X5_promise : Cond.instanceMethod yX5_promise ∈ GW := tm3 (List.mem_of_getElem? (i := 194) rfl) rfl
theorem wSe_X5_X5_promise : Cond.selects RX5 yX5_promise yX5_promise ∈ GW := tm3 (List.mem_of_getElem? (i := 195) rfl) rfl
theorem wC_X5_promise : Cond.code yX5_promise cX5_promise 5 (some .int) ∈ GW := tm3 (List.mem_of_getElem? (i := 196) rfl) rfl
theorem wK_X5_81 : Cond.classLink RX5 81 "java/lang/IllegalStateException" ∈ GW := tm3 (List.mem_of_getElem? (i := 199) rfl) rfl
theorem wIb_IllegalStateException : Cond.instantiable "java/lang/IllegalStateException" 6 ∈ GW := tm3 (List.mem_of_getElem? (i := 200) rfl) rfl
theorem wSe_IllegalStateException_Throwable_fillInStackTrace_I_Ljava_lang_Throwable_ : Cond.selects "java/lang/IllegalStateException" ⟨"java/lang/Throwable", "fillInStackTrace", "(I)Ljava/lang/Throwable;"⟩ ⟨"java/lang/Throwable", "fillInStackTrace", "(I)Ljava/lang/Throwable;"⟩ ∈ GW := tm3 (List.mem_of_getElem? (i := 202) rfl) rfl
theorem wY_IllegalStateException_cause : Cond.lays "java/lang/IllegalStateException" "java/lang/Throwable" "cause" "Ljava/lang/Throwable;" ∈ GW := tm3 (List.mem_of_getElem? (i := 203) rfl) rfl
theorem wY_IllegalStateException_stackTrace : Cond.lays "java/lang/IllegalStateException" "java/lang/Throwable" "stackTrace" "[Ljava/lang/StackTraceElement;" ∈ GW := tm3 (List.mem_of_getElem? (i := 204) rfl) rfl
theorem wY_IllegalStateException_suppressedExceptions : Cond.lays "java/lang/IllegalStateException" "java/lang/Throwable" "suppressedExceptions" "Ljava/util/List;" ∈ GW := tm3 (List.mem_of_getElem? (i := 205) rfl) rfl
theorem wY_IllegalStateException_detailMessage : Cond.lays "java/lang/IllegalStateException" "java/lang/Throwable" "detailMessage" "Ljava/lang/String;" ∈ GW := tm3 (List.mem_of_getElem? (i := 206) rfl) rfl
theorem wY_IllegalStateException_backtrace : Cond.lays "java/lang/IllegalStateException" "java/lang/Throwable" "backtrace" "Ljava/lang/Object;" ∈ GW := tm3 (List.mem_of_getElem? (i := 207) rfl) rfl
theorem wL_X5_85 : Cond.methodLink RX5 85 ⟨"java/lang/IllegalStateException", "<init>", "(Ljava/lang/String;)V"⟩ ∈ GW := tm3 (List.mem_of_getElem? (i := 209) rfl) rfl
theorem wI_IllegalStateException__init__Ljava_lang_String__V : Cond.instanceMethod ⟨"java/lang/IllegalStateException", "<init>", "(Ljava/lang/String;)V"⟩ ∈ GW := tm3 (List.mem_of_getElem? (i := 210) rfl) rfl
theorem wC_IllegalStateException__init__Ljava_lang_String__V : Cond.code ⟨"java/lang/IllegalStateException", "<init>", "(Ljava/lang/String;)V"⟩ prog_11_method_2_code 2 none ∈ GW := tm3 (List.mem_of_getElem? (i := 211) rfl) rfl
theorem wL_IllegalStateException_7 : Cond.methodLink "java/lang/IllegalStateException" 7 ⟨"java/lang/RuntimeException", "<init>", "(Ljava/lang/String;)V"⟩ ∈ GW := tm3 (List.mem_of_getElem? (i := 212) rfl) rfl
theorem wY_IllegalStateException_depth : Cond.lays "java/lang/IllegalStateException" "java/lang/Throwable" "depth" "I" ∈ GW := tm3 (List.mem_of_getElem? (i := 213) rfl) rfl
theorem wL_L_90 : Cond.methodLink RL 90 yL_pay ∈ GW := tm3 (List.mem_of_getElem? (i := 215) rfl) rfl
theorem wS_L_pay : Cond.static yL_pay ∈ GW := tm3 (List.mem_of_getElem? (i := 216) rfl) rfl
theorem wC_L_pay : Cond.codeWith yL_pay cL_pay 5 (some .int) [(0, 10, 13, 19), (0, 10, 17, 13), (0, 10, 21, 21)] ∈ GW := tm3 (List.mem_of_getElem? (i := 217) rfl) rfl
theorem wL_L_23 : Cond.methodLink RL 23 yX5_pay ∈ GW := tm3 (List.mem_of_getElem? (i := 218) rfl) rfl
theorem wI_X5_pay : Cond.instanceMethod yX5_pay ∈ GW := tm3 (List.mem_of_getElem? (i := 219) rfl) rfl
theorem wSe_X5_X5_pay : Cond.selects RX5 yX5_pay yX5_pay ∈ GW := tm3 (List.mem_of_getElem? (i := 220) rfl) rfl
theorem wC_X5_pay : Cond.code yX5_pay cX5_pay 3 (some .int) ∈ GW := tm3 (List.mem_of_getElem? (i := 221) rfl) rfl
theorem wL_X5_103 : Cond.methodLink RX5 103 yX0_payPart ∈ GW := tm3 (List.mem_of_getElem? (i := 224) rfl) rfl
theorem wI_X0_payPart : Cond.instanceMethod yX0_payPart ∈ GW := tm3 (List.mem_of_getElem? (i := 225) rfl) rfl
theorem wSe_X0_X0_payPart : Cond.selects RX0 yX0_payPart yX0_payPart ∈ GW := tm3 (List.mem_of_getElem? (i := 226) rfl) rfl
theorem wC_X0_payPart : Cond.code yX0_payPart cX0_payPart 3 none ∈ GW := tm3 (List.mem_of_getElem? (i := 227) rfl) rfl
theorem wL_L_94 : Cond.methodLink RL 94 yL_dispute ∈ GW := tm3 (List.mem_of_getElem? (i := 228) rfl) rfl
theorem wS_L_dispute : Cond.static yL_dispute ∈ GW := tm3 (List.mem_of_getElem? (i := 229) rfl) rfl
theorem wC_L_dispute : Cond.codeWith yL_dispute cL_dispute 4 (some .int) [(0, 9, 12, 19), (0, 9, 15, 21)] ∈ GW := tm3 (List.mem_of_getElem? (i := 230) rfl) rfl
theorem wL_L_27 : Cond.methodLink RL 27 yX5_dispute ∈ GW := tm3 (List.mem_of_getElem? (i := 231) rfl) rfl
theorem wI_X5_dispute : Cond.instanceMethod yX5_dispute ∈ GW := tm3 (List.mem_of_getElem? (i := 232) rfl) rfl
theorem wSe_X5_X5_dispute : Cond.selects RX5 yX5_dispute yX5_dispute ∈ GW := tm3 (List.mem_of_getElem? (i := 233) rfl) rfl
theorem wC_X5_dispute : Cond.code yX5_dispute cX5_dispute 3 (some .int) ∈ GW := tm3 (List.mem_of_getElem? (i := 234) rfl) rfl
theorem wL_L_97 : Cond.methodLink RL 97 yL_settle ∈ GW := tm3 (List.mem_of_getElem? (i := 236) rfl) rfl
theorem wS_L_settle : Cond.static yL_settle ∈ GW := tm3 (List.mem_of_getElem? (i := 237) rfl) rfl
theorem wC_L_settle : Cond.codeWith yL_settle cL_settle 4 (some .int) [(0, 9, 12, 19), (0, 9, 15, 21)] ∈ GW := tm3 (List.mem_of_getElem? (i := 238) rfl) rfl
theorem wL_L_30 : Cond.methodLink RL 30 yX5_settle ∈ GW := tm3 (List.mem_of_getElem? (i := 239) rfl) rfl
theorem wI_X5_settle : Cond.instanceMethod yX5_settle ∈ GW := tm4 (List.mem_of_getElem? (i := 0) rfl) rfl
theorem wSe_X5_X5_settle : Cond.selects RX5 yX5_settle yX5_settle ∈ GW := tm4 (List.mem_of_getElem? (i := 1) rfl) rfl
theorem wC_X5_settle : Cond.code yX5_settle cX5_settle 2 (some .int) ∈ GW := tm4 (List.mem_of_getElem? (i := 2) rfl) rfl
theorem wL_L_100 : Cond.methodLink RL 100 yL_discharge ∈ GW := tm4 (List.mem_of_getElem? (i := 4) rfl) rfl
theorem wS_L_discharge : Cond.static yL_discharge ∈ GW := tm4 (List.mem_of_getElem? (i := 5) rfl) rfl
theorem wC_L_discharge : Cond.codeWith yL_discharge cL_discharge 5 (some .int) [(0, 10, 13, 19), (0, 10, 17, 13), (0, 10, 21, 21)] ∈ GW := tm4 (List.mem_of_getElem? (i := 6) rfl) rfl
theorem wL_L_33 : Cond.methodLink RL 33 yX5_discharge ∈ GW := tm4 (List.mem_of_getElem? (i := 7) rfl) rfl
theorem wI_X5_discharge : Cond.instanceMethod yX5_discharge ∈ GW := tm4 (List.mem_of_getElem? (i := 8) rfl) rfl
theorem wSe_X5_X5_discharge : Cond.selects RX5 yX5_discharge yX5_discharge ∈ GW := tm4 (List.mem_of_getElem? (i := 9) rfl) rfl
theorem wC_X5_discharge : Cond.code yX5_discharge cX5_discharge 3 (some .int) ∈ GW := tm4 (List.mem_of_getElem? (i := 10) rfl) rfl
theorem wL_X5_126 : Cond.methodLink RX5 126 yX4_roomAt ∈ GW := tm4 (List.mem_of_getElem? (i := 13) rfl) rfl
theorem wL_X5_132 : Cond.methodLink RX5 132 yX4_releaseAround ∈ GW := tm4 (List.mem_of_getElem? (i := 15) rfl) rfl
theorem wL_L_103 : Cond.methodLink RL 103 yL_dischargeBest ∈ GW := tm4 (List.mem_of_getElem? (i := 16) rfl) rfl
theorem wS_L_dischargeBest : Cond.static yL_dischargeBest ∈ GW := tm4 (List.mem_of_getElem? (i := 17) rfl) rfl
theorem wC_L_dischargeBest : Cond.codeWith yL_dischargeBest cL_dischargeBest 3 (some .int) [(0, 8, 11, 21)] ∈ GW := tm4 (List.mem_of_getElem? (i := 18) rfl) rfl
theorem wL_L_36 : Cond.methodLink RL 36 yX5_dischargeBest ∈ GW := tm4 (List.mem_of_getElem? (i := 19) rfl) rfl
theorem wI_X5_dischargeBest : Cond.instanceMethod yX5_dischargeBest ∈ GW := tm4 (List.mem_of_getElem? (i := 20) rfl) rfl
theorem wSe_X5_X5_dischargeBest : Cond.selects RX5 yX5_dischargeBest yX5_dischargeBest ∈ GW := tm4 (List.mem_of_getElem? (i := 21) rfl) rfl
theorem wC_X5_dischargeBest : Cond.code yX5_dischargeBest cX5_dischargeBest 1 (some .int) ∈ GW := tm4 (List.mem_of_getElem? (i := 22) rfl) rfl
theorem wL_L_111 : Cond.methodLink RL 111 yL_promiseOf ∈ GW := tm4 (List.mem_of_getElem? (i := 24) rfl) rfl
theorem wS_L_promiseOf : Cond.static yL_promiseOf ∈ GW := tm4 (List.mem_of_getElem? (i := 25) rfl) rfl
theorem wC_L_promiseOf : Cond.codeWith yL_promiseOf cL_promiseOf 5 (some .int) [(0, 10, 13, 19), (0, 10, 17, 13)] ∈ GW := tm4 (List.mem_of_getElem? (i := 26) rfl) rfl
theorem wL_L_40 : Cond.methodLink RL 40 yX5_promiseOf ∈ GW := tm4 (List.mem_of_getElem? (i := 27) rfl) rfl
theorem wL_L_114 : Cond.methodLink RL 114 yL_debt ∈ GW := tm4 (List.mem_of_getElem? (i := 28) rfl) rfl
theorem wS_L_debt : Cond.static yL_debt ∈ GW := tm4 (List.mem_of_getElem? (i := 29) rfl) rfl
theorem wC_L_debt : Cond.codeWith yL_debt cL_debt 5 (some .int) [(0, 10, 13, 19)] ∈ GW := tm4 (List.mem_of_getElem? (i := 30) rfl) rfl
theorem wL_L_43 : Cond.methodLink RL 43 yX5_debt ∈ GW := tm4 (List.mem_of_getElem? (i := 31) rfl) rfl
theorem wI_X5_debt : Cond.instanceMethod yX5_debt ∈ GW := tm4 (List.mem_of_getElem? (i := 32) rfl) rfl
theorem wSe_X5_X5_debt : Cond.selects RX5 yX5_debt yX5_debt ∈ GW := tm4 (List.mem_of_getElem? (i := 33) rfl) rfl
theorem wC_X5_debt : Cond.code yX5_debt cX5_debt 3 (some .int) ∈ GW := tm4 (List.mem_of_getElem? (i := 34) rfl) rfl
theorem wL_L_117 : Cond.methodLink RL 117 yL_net ∈ GW := tm4 (List.mem_of_getElem? (i := 35) rfl) rfl
theorem wS_L_net : Cond.static yL_net ∈ GW := tm4 (List.mem_of_getElem? (i := 36) rfl) rfl
theorem wC_L_net : Cond.codeWith yL_net cL_net 4 (some .int) [(0, 9, 12, 19)] ∈ GW := tm4 (List.mem_of_getElem? (i := 37) rfl) rfl
theorem wL_L_46 : Cond.methodLink RL 46 yX5_net ∈ GW := tm4 (List.mem_of_getElem? (i := 38) rfl) rfl
theorem wI_X5_net : Cond.instanceMethod yX5_net ∈ GW := tm4 (List.mem_of_getElem? (i := 39) rfl) rfl
theorem wSe_X5_X5_net : Cond.selects RX5 yX5_net yX5_net ∈ GW := tm4 (List.mem_of_getElem? (i := 40) rfl) rfl
theorem wC_X5_net : Cond.code yX5_net cX5_net 2 (some .int) ∈ GW := tm4 (List.mem_of_getElem? (i := 41) rfl) rfl
theorem wL_L_120 : Cond.methodLink RL 120 yL_ring ∈ GW := tm4 (List.mem_of_getElem? (i := 42) rfl) rfl
theorem wS_L_ring : Cond.static yL_ring ∈ GW := tm4 (List.mem_of_getElem? (i := 43) rfl) rfl
theorem wC_L_ring : Cond.codeWith yL_ring cL_ring 5 (some .int) [(0, 10, 13, 19), (0, 10, 17, 13)] ∈ GW := tm4 (List.mem_of_getElem? (i := 44) rfl) rfl
theorem wL_L_49 : Cond.methodLink RL 49 yX5_ring ∈ GW := tm4 (List.mem_of_getElem? (i := 45) rfl) rfl
theorem wI_X5_ring : Cond.instanceMethod yX5_ring ∈ GW := tm4 (List.mem_of_getElem? (i := 46) rfl) rfl
theorem wSe_X5_X5_ring : Cond.selects RX5 yX5_ring yX5_ring ∈ GW := tm4 (List.mem_of_getElem? (i := 47) rfl) rfl
theorem wC_X5_ring : Cond.code yX5_ring cX5_ring 3 (some .int) ∈ GW := tm4 (List.mem_of_getElem? (i := 48) rfl) rfl
theorem wL_X5_174 : Cond.methodLink RX5 174 yX4_partyAt ∈ GW := tm4 (List.mem_of_getElem? (i := 50) rfl) rfl
theorem wI_X4_partyAt : Cond.instanceMethod yX4_partyAt ∈ GW := tm4 (List.mem_of_getElem? (i := 51) rfl) rfl
theorem wSe_X4_X4_partyAt : Cond.selects RX4 yX4_partyAt yX4_partyAt ∈ GW := tm4 (List.mem_of_getElem? (i := 52) rfl) rfl
theorem wC_X4_partyAt : Cond.code yX4_partyAt cX4_partyAt 3 (some .int) ∈ GW := tm4 (List.mem_of_getElem? (i := 53) rfl) rfl
theorem wL_L_123 : Cond.methodLink RL 123 yL_room ∈ GW := tm4 (List.mem_of_getElem? (i := 54) rfl) rfl
theorem wS_L_room : Cond.static yL_room ∈ GW := tm4 (List.mem_of_getElem? (i := 55) rfl) rfl
theorem wC_L_room : Cond.codeWith yL_room cL_room 4 (some .int) [(0, 9, 12, 19)] ∈ GW := tm4 (List.mem_of_getElem? (i := 56) rfl) rfl
theorem wL_L_52 : Cond.methodLink RL 52 yX5_room ∈ GW := tm4 (List.mem_of_getElem? (i := 57) rfl) rfl
theorem wI_X5_room : Cond.instanceMethod yX5_room ∈ GW := tm4 (List.mem_of_getElem? (i := 58) rfl) rfl
theorem wSe_X5_X5_room : Cond.selects RX5 yX5_room yX5_room ∈ GW := tm4 (List.mem_of_getElem? (i := 59) rfl) rfl
theorem wC_X5_room : Cond.code yX5_room cX5_room 2 (some .int) ∈ GW := tm4 (List.mem_of_getElem? (i := 60) rfl) rfl
theorem wL_L_126 : Cond.methodLink RL 126 yL_value ∈ GW := tm4 (List.mem_of_getElem? (i := 61) rfl) rfl
theorem wS_L_value : Cond.static yL_value ∈ GW := tm4 (List.mem_of_getElem? (i := 62) rfl) rfl
theorem wC_L_value : Cond.codeWith yL_value cL_value 4 (some .int) [(0, 9, 12, 13)] ∈ GW := tm4 (List.mem_of_getElem? (i := 63) rfl) rfl
theorem wL_L_55 : Cond.methodLink RL 55 yX5_value ∈ GW := tm4 (List.mem_of_getElem? (i := 64) rfl) rfl
theorem wL_L_129 : Cond.methodLink RL 129 yL_saving ∈ GW := tm4 (List.mem_of_getElem? (i := 65) rfl) rfl
theorem wS_L_saving : Cond.static yL_saving ∈ GW := tm4 (List.mem_of_getElem? (i := 66) rfl) rfl
theorem wC_L_saving : Cond.codeWith yL_saving cL_saving 4 (some .int) [(0, 9, 12, 19)] ∈ GW := tm4 (List.mem_of_getElem? (i := 67) rfl) rfl
theorem wL_L_58 : Cond.methodLink RL 58 yX5_saving ∈ GW := tm4 (List.mem_of_getElem? (i := 68) rfl) rfl
theorem wI_X5_saving : Cond.instanceMethod yX5_saving ∈ GW := tm4 (List.mem_of_getElem? (i := 69) rfl) rfl
theorem wSe_X5_X5_saving : Cond.selects RX5 yX5_saving yX5_saving ∈ GW := tm4 (List.mem_of_getElem? (i := 70) rfl) rfl
theorem wC_X5_saving : Cond.code yX5_saving cX5_saving 2 (some .int) ∈ GW := tm4 (List.mem_of_getElem? (i := 71) rfl) rfl
theorem wL_X5_206 : Cond.methodLink RX5 206 yX4_savingAt ∈ GW := tm4 (List.mem_of_getElem? (i := 72) rfl) rfl
theorem wL_L_144 : Cond.methodLink RL 144 yL_ringsWithout ∈ GW := tm4 (List.mem_of_getElem? (i := 73) rfl) rfl
theorem wS_L_ringsWithout : Cond.static yL_ringsWithout ∈ GW := tm4 (List.mem_of_getElem? (i := 74) rfl) rfl
theorem wC_L_ringsWithout : Cond.codeWith yL_ringsWithout cL_ringsWithout 4 (some .int) [(0, 9, 12, 19)] ∈ GW := tm4 (List.mem_of_getElem? (i := 75) rfl) rfl
theorem wL_L_61 : Cond.methodLink RL 61 yX5_ringsWithout ∈ GW := tm4 (List.mem_of_getElem? (i := 76) rfl) rfl
theorem wI_X5_ringsWithout : Cond.instanceMethod yX5_ringsWithout ∈ GW := tm4 (List.mem_of_getElem? (i := 77) rfl) rfl
theorem wSe_X5_X5_ringsWithout : Cond.selects RX5 yX5_ringsWithout yX5_ringsWithout ∈ GW := tm4 (List.mem_of_getElem? (i := 78) rfl) rfl
theorem wC_X5_ringsWithout : Cond.code yX5_ringsWithout cX5_ringsWithout 2 (some .int) ∈ GW := tm4 (List.mem_of_getElem? (i := 79) rfl) rfl
theorem wL_L_151 : Cond.methodLink RL 151 yL_mutual ∈ GW := tm4 (List.mem_of_getElem? (i := 80) rfl) rfl
theorem wS_L_mutual : Cond.static yL_mutual ∈ GW := tm4 (List.mem_of_getElem? (i := 81) rfl) rfl
theorem wC_L_mutual : Cond.codeWith yL_mutual cL_mutual 4 (some .int) [(0, 9, 12, 19)] ∈ GW := tm4 (List.mem_of_getElem? (i := 82) rfl) rfl
theorem wL_L_64 : Cond.methodLink RL 64 yX5_mutual ∈ GW := tm4 (List.mem_of_getElem? (i := 83) rfl) rfl
theorem wI_X5_mutual : Cond.instanceMethod yX5_mutual ∈ GW := tm4 (List.mem_of_getElem? (i := 84) rfl) rfl
theorem wSe_X5_X5_mutual : Cond.selects RX5 yX5_mutual yX5_mutual ∈ GW := tm4 (List.mem_of_getElem? (i := 85) rfl) rfl
theorem wC_X5_mutual : Cond.code yX5_mutual cX5_mutual 4 (some .int) ∈ GW := tm4 (List.mem_of_getElem? (i := 86) rfl) rfl
theorem wL_X5_232 : Cond.methodLink RX5 232 yJ9_min_7cf53 ∈ GW := tm4 (List.mem_of_getElem? (i := 87) rfl) rfl
theorem wL_L_154 : Cond.methodLink RL 154 yL_append ∈ GW := tm4 (List.mem_of_getElem? (i := 88) rfl) rfl
theorem wS_L_append : Cond.static yL_append ∈ GW := tm4 (List.mem_of_getElem? (i := 89) rfl) rfl
theorem wC_L_append : Cond.codeWith yL_append cL_append 4 (some .int) [(0, 9, 12, 13), (0, 9, 15, 21)] ∈ GW := tm4 (List.mem_of_getElem? (i := 90) rfl) rfl
theorem wL_L_67 : Cond.methodLink RL 67 yX5_append ∈ GW := tm4 (List.mem_of_getElem? (i := 91) rfl) rfl
theorem wI_X5_append : Cond.instanceMethod yX5_append ∈ GW := tm4 (List.mem_of_getElem? (i := 92) rfl) rfl
theorem wSe_X5_X5_append : Cond.selects RX5 yX5_append yX5_append ∈ GW := tm4 (List.mem_of_getElem? (i := 93) rfl) rfl
theorem wC_X5_append : Cond.code yX5_append cX5_append 2 (some .int) ∈ GW := tm4 (List.mem_of_getElem? (i := 94) rfl) rfl
theorem wL_X5_239 : Cond.methodLink RX5 239 yX2_isFull ∈ GW := tm4 (List.mem_of_getElem? (i := 96) rfl) rfl
theorem wI_X2_isFull : Cond.instanceMethod yX2_isFull ∈ GW := tm4 (List.mem_of_getElem? (i := 97) rfl) rfl
theorem wSe_X2_X2_isFull : Cond.selects RX2 yX2_isFull yX2_isFull ∈ GW := tm4 (List.mem_of_getElem? (i := 98) rfl) rfl
theorem wC_X2_isFull : Cond.code yX2_isFull cX2_isFull 1 (some .boolean) ∈ GW := tm4 (List.mem_of_getElem? (i := 99) rfl) rfl
theorem wL_X5_242 : Cond.methodLink RX5 242 yX2_add ∈ GW := tm4 (List.mem_of_getElem? (i := 101) rfl) rfl
theorem wI_X2_add : Cond.instanceMethod yX2_add ∈ GW := tm4 (List.mem_of_getElem? (i := 102) rfl) rfl
theorem wSe_X2_X2_add : Cond.selects RX2 yX2_add yX2_add ∈ GW := tm4 (List.mem_of_getElem? (i := 103) rfl) rfl
theorem wC_X2_add : Cond.code yX2_add cX2_add 2 none ∈ GW := tm4 (List.mem_of_getElem? (i := 104) rfl) rfl
theorem wL_L_165 : Cond.methodLink RL 165 yL_undo ∈ GW := tm4 (List.mem_of_getElem? (i := 105) rfl) rfl
theorem wS_L_undo : Cond.static yL_undo ∈ GW := tm4 (List.mem_of_getElem? (i := 106) rfl) rfl
theorem wC_L_undo : Cond.codeWith yL_undo cL_undo 3 (some .int) [(0, 8, 11, 21)] ∈ GW := tm4 (List.mem_of_getElem? (i := 107) rfl) rfl
theorem wL_L_70 : Cond.methodLink RL 70 yX5_undo ∈ GW := tm4 (List.mem_of_getElem? (i := 108) rfl) rfl
theorem wI_X5_undo : Cond.instanceMethod yX5_undo ∈ GW := tm4 (List.mem_of_getElem? (i := 109) rfl) rfl
theorem wSe_X5_X5_undo : Cond.selects RX5 yX5_undo yX5_undo ∈ GW := tm4 (List.mem_of_getElem? (i := 110) rfl) rfl
theorem wC_X5_undo : Cond.code yX5_undo cX5_undo 2 (some .int) ∈ GW := tm4 (List.mem_of_getElem? (i := 111) rfl) rfl
theorem wK_L_74 : Cond.classLink RL 74 RX6 ∈ GW := tm4 (List.mem_of_getElem? (i := 113) rfl) rfl
theorem wIb_X6 : Cond.instantiable RX6 30 ∈ GW := tm4 (List.mem_of_getElem? (i := 114) rfl) rfl
theorem wL_L_76 : Cond.methodLink RL 76 yX6_init ∈ GW := tm4 (List.mem_of_getElem? (i := 115) rfl) rfl
theorem wI_X6_init : Cond.instanceMethod yX6_init ∈ GW := tm4 (List.mem_of_getElem? (i := 116) rfl) rfl
theorem wC_X6_init : Cond.code yX6_init cX6_init 1 none ∈ GW := tm4 (List.mem_of_getElem? (i := 117) rfl) rfl
theorem wL_X6_1 : Cond.methodLink RX6 1 ⟨"java/lang/Object", "<init>", "()V"⟩ ∈ GW := tm4 (List.mem_of_getElem? (i := 118) rfl) rfl
theorem wF_X6_7 : Cond.fieldLink RX6 7 "PledgeRingsModel" "now" "[I" ∈ GW := tm4 (List.mem_of_getElem? (i := 119) rfl) rfl
theorem wF_X6_13 : Cond.fieldLink RX6 13 "PledgeRingsModel" "tried" "[I" ∈ GW := tm4 (List.mem_of_getElem? (i := 120) rfl) rfl
theorem wF_X6_16 : Cond.fieldLink RX6 16 "PledgeRingsModel" "saved" "[I" ∈ GW := tm4 (List.mem_of_getElem? (i := 121) rfl) rfl
theorem wF_X6_72 : Cond.fieldLink RX6 72 "PledgeRingsModel" "states" "I" ∈ GW := tm4 (List.mem_of_getElem? (i := 122) rfl) rfl
theorem wF_X6_19 : Cond.fieldLink RX6 19 "PledgeRingsModel" "text" "[I" ∈ GW := tm4 (List.mem_of_getElem? (i := 123) rfl) rfl
theorem wF_X6_207 : Cond.fieldLink RX6 207 "PledgeRingsModel" "letters" "I" ∈ GW := tm4 (List.mem_of_getElem? (i := 124) rfl) rfl
theorem wF_X6_64 : Cond.fieldLink RX6 64 "PledgeRingsModel" "thrown" "I" ∈ GW := tm4 (List.mem_of_getElem? (i := 125) rfl) rfl
theorem wF_X6_22 : Cond.fieldLink RX6 22 "PledgeRingsModel" "debts" "[I" ∈ GW := tm4 (List.mem_of_getElem? (i := 126) rfl) rfl
theorem wF_X6_25 : Cond.fieldLink RX6 25 "PledgeRingsModel" "byRate" "[I" ∈ GW := tm4 (List.mem_of_getElem? (i := 127) rfl) rfl
theorem wF_X6_83 : Cond.fieldLink RX6 83 "PledgeRingsModel" "parties" "I" ∈ GW := tm4 (List.mem_of_getElem? (i := 128) rfl) rfl
theorem wF_X6_28 : Cond.fieldLink RX6 28 "PledgeRingsModel" "row" "[I" ∈ GW := tm4 (List.mem_of_getElem? (i := 129) rfl) rfl
theorem wF_X6_31 : Cond.fieldLink RX6 31 "PledgeRingsModel" "next" "[I" ∈ GW := tm4 (List.mem_of_getElem? (i := 130) rfl) rfl
theorem wF_X6_86 : Cond.fieldLink RX6 86 "PledgeRingsModel" "length" "I" ∈ GW := tm4 (List.mem_of_getElem? (i := 131) rfl) rfl
theorem wF_X6_121 : Cond.fieldLink RX6 121 "PledgeRingsModel" "bestNumber" "I" ∈ GW := tm4 (List.mem_of_getElem? (i := 132) rfl) rfl
theorem wF_X6_124 : Cond.fieldLink RX6 124 "PledgeRingsModel" "bestSaving" "I" ∈ GW := tm4 (List.mem_of_getElem? (i := 133) rfl) rfl
theorem wF_X6_34 : Cond.fieldLink RX6 34 "PledgeRingsModel" "bestRow" "[I" ∈ GW := tm4 (List.mem_of_getElem? (i := 134) rfl) rfl
theorem wF_X6_131 : Cond.fieldLink RX6 131 "PledgeRingsModel" "bestLength" "I" ∈ GW := tm4 (List.mem_of_getElem? (i := 135) rfl) rfl
theorem wF_X6_37 : Cond.fieldLink RX6 37 "PledgeRingsModel" "stays" "[I" ∈ GW := tm4 (List.mem_of_getElem? (i := 136) rfl) rfl
theorem wF_X6_40 : Cond.fieldLink RX6 40 "PledgeRingsModel" "lacks" "[I" ∈ GW := tm4 (List.mem_of_getElem? (i := 137) rfl) rfl
theorem wF_X6_43 : Cond.fieldLink RX6 43 "PledgeRingsModel" "far" "[I" ∈ GW := tm4 (List.mem_of_getElem? (i := 138) rfl) rfl
theorem wF_X6_46 : Cond.fieldLink RX6 46 "PledgeRingsModel" "by" "[I" ∈ GW := tm4 (List.mem_of_getElem? (i := 139) rfl) rfl
theorem wF_X6_210 : Cond.fieldLink RX6 210 "PledgeRingsModel" "at" "I" ∈ GW := tm4 (List.mem_of_getElem? (i := 140) rfl) rfl
theorem wF_X6_213 : Cond.fieldLink RX6 213 "PledgeRingsModel" "wrong" "I" ∈ GW := tm4 (List.mem_of_getElem? (i := 141) rfl) rfl
theorem wF_X6_222 : Cond.fieldLink RX6 222 "PledgeRingsModel" "number" "I" ∈ GW := tm4 (List.mem_of_getElem? (i := 142) rfl) rfl
theorem wF_X6_229 : Cond.fieldLink RX6 229 "PledgeRingsModel" "orders" "I" ∈ GW := tm4 (List.mem_of_getElem? (i := 143) rfl) rfl
theorem wF_X6_49 : Cond.fieldLink RX6 49 "PledgeRingsModel" "whats" "[I" ∈ GW := tm4 (List.mem_of_getElem? (i := 144) rfl) rfl
theorem wF_X6_52 : Cond.fieldLink RX6 52 "PledgeRingsModel" "firsts" "[I" ∈ GW := tm4 (List.mem_of_getElem? (i := 145) rfl) rfl
theorem wF_X6_55 : Cond.fieldLink RX6 55 "PledgeRingsModel" "seconds" "[I" ∈ GW := tm4 (List.mem_of_getElem? (i := 146) rfl) rfl
theorem wF_X6_58 : Cond.fieldLink RX6 58 "PledgeRingsModel" "amounts" "[I" ∈ GW := tm4 (List.mem_of_getElem? (i := 147) rfl) rfl
theorem wF_X6_61 : Cond.fieldLink RX6 61 "PledgeRingsModel" "rates" "[I" ∈ GW := tm4 (List.mem_of_getElem? (i := 148) rfl) rfl
theorem wY_X6_now : Cond.laysFinal RX6 "PledgeRingsModel" "now" "[I" ∈ GW := tm4 (List.mem_of_getElem? (i := 149) rfl) rfl
theorem wY_X6_tried : Cond.laysFinal RX6 "PledgeRingsModel" "tried" "[I" ∈ GW := tm4 (List.mem_of_getElem? (i := 151) rfl) rfl
theorem wY_X6_saved : Cond.laysFinal RX6 "PledgeRingsModel" "saved" "[I" ∈ GW := tm4 (List.mem_of_getElem? (i := 153) rfl) rfl
theorem wY_X6_states : Cond.lays RX6 "PledgeRingsModel" "states" "I" ∈ GW := tm4 (List.mem_of_getElem? (i := 155) rfl) rfl
theorem wY_X6_text : Cond.laysFinal RX6 "PledgeRingsModel" "text" "[I" ∈ GW := tm4 (List.mem_of_getElem? (i := 157) rfl) rfl
theorem wY_X6_letters : Cond.lays RX6 "PledgeRingsModel" "letters" "I" ∈ GW := tm4 (List.mem_of_getElem? (i := 159) rfl) rfl
theorem wY_X6_thrown : Cond.lays RX6 "PledgeRingsModel" "thrown" "I" ∈ GW := tm4 (List.mem_of_getElem? (i := 161) rfl) rfl
theorem wY_X6_debts : Cond.laysFinal RX6 "PledgeRingsModel" "debts" "[I" ∈ GW := tm4 (List.mem_of_getElem? (i := 163) rfl) rfl
theorem wY_X6_byRate : Cond.laysFinal RX6 "PledgeRingsModel" "byRate" "[I" ∈ GW := tm4 (List.mem_of_getElem? (i := 165) rfl) rfl
theorem wY_X6_parties : Cond.lays RX6 "PledgeRingsModel" "parties" "I" ∈ GW := tm4 (List.mem_of_getElem? (i := 167) rfl) rfl
theorem wY_X6_row : Cond.laysFinal RX6 "PledgeRingsModel" "row" "[I" ∈ GW := tm4 (List.mem_of_getElem? (i := 169) rfl) rfl
theorem wY_X6_next : Cond.laysFinal RX6 "PledgeRingsModel" "next" "[I" ∈ GW := tm4 (List.mem_of_getElem? (i := 171) rfl) rfl
theorem wY_X6_length : Cond.lays RX6 "PledgeRingsModel" "length" "I" ∈ GW := tm4 (List.mem_of_getElem? (i := 173) rfl) rfl
theorem wY_X6_bestNumber : Cond.lays RX6 "PledgeRingsModel" "bestNumber" "I" ∈ GW := tm4 (List.mem_of_getElem? (i := 175) rfl) rfl
theorem wY_X6_bestSaving : Cond.lays RX6 "PledgeRingsModel" "bestSaving" "I" ∈ GW := tm4 (List.mem_of_getElem? (i := 177) rfl) rfl
theorem wY_X6_bestRow : Cond.laysFinal RX6 "PledgeRingsModel" "bestRow" "[I" ∈ GW := tm4 (List.mem_of_getElem? (i := 179) rfl) rfl
theorem wY_X6_bestLength : Cond.lays RX6 "PledgeRingsModel" "bestLength" "I" ∈ GW := tm4 (List.mem_of_getElem? (i := 181) rfl) rfl
theorem wY_X6_stays : Cond.laysFinal RX6 "PledgeRingsModel" "stays" "[I" ∈ GW := tm4 (List.mem_of_getElem? (i := 183) rfl) rfl
theorem wY_X6_lacks : Cond.laysFinal RX6 "PledgeRingsModel" "lacks" "[I" ∈ GW := tm4 (List.mem_of_getElem? (i := 185) rfl) rfl
theorem wY_X6_far : Cond.laysFinal RX6 "PledgeRingsModel" "far" "[I" ∈ GW := tm4 (List.mem_of_getElem? (i := 187) rfl) rfl
theorem wY_X6_by : Cond.laysFinal RX6 "PledgeRingsModel" "by" "[I" ∈ GW := tm4 (List.mem_of_getElem? (i := 189) rfl) rfl
theorem wY_X6_at : Cond.lays RX6 "PledgeRingsModel" "at" "I" ∈ GW := tm4 (List.mem_of_getElem? (i := 191) rfl) rfl
theorem wY_X6_wrong : Cond.lays RX6 "PledgeRingsModel" "wrong" "I" ∈ GW := tm4 (List.mem_of_getElem? (i := 193) rfl) rfl
theorem wY_X6_number : Cond.lays RX6 "PledgeRingsModel" "number" "I" ∈ GW := tm4 (List.mem_of_getElem? (i := 195) rfl) rfl
theorem wY_X6_orders : Cond.lays RX6 "PledgeRingsModel" "orders" "I" ∈ GW := tm4 (List.mem_of_getElem? (i := 197) rfl) rfl
theorem wY_X6_whats : Cond.laysFinal RX6 "PledgeRingsModel" "whats" "[I" ∈ GW := tm4 (List.mem_of_getElem? (i := 199) rfl) rfl
theorem wY_X6_firsts : Cond.laysFinal RX6 "PledgeRingsModel" "firsts" "[I" ∈ GW := tm4 (List.mem_of_getElem? (i := 201) rfl) rfl
theorem wY_X6_seconds : Cond.laysFinal RX6 "PledgeRingsModel" "seconds" "[I" ∈ GW := tm4 (List.mem_of_getElem? (i := 203) rfl) rfl
theorem wY_X6_amounts : Cond.laysFinal RX6 "PledgeRingsModel" "amounts" "[I" ∈ GW := tm4 (List.mem_of_getElem? (i := 205) rfl) rfl
theorem wY_X6_rates : Cond.laysFinal RX6 "PledgeRingsModel" "rates" "[I" ∈ GW := tm4 (List.mem_of_getElem? (i := 207) rfl) rfl
theorem wL_L_83 : Cond.methodLink RL 83 yX6_thrown ∈ GW := tm4 (List.mem_of_getElem? (i := 210) rfl) rfl
theorem wI_X6_thrown : Cond.instanceMethod yX6_thrown ∈ GW := tm4 (List.mem_of_getElem? (i := 211) rfl) rfl
theorem wSe_X6_X6_thrown : Cond.selects RX6 yX6_thrown yX6_thrown ∈ GW := tm4 (List.mem_of_getElem? (i := 212) rfl) rfl
theorem wC_X6_thrown : Cond.code yX6_thrown cX6_thrown 1 (some .int) ∈ GW := tm4 (List.mem_of_getElem? (i := 213) rfl) rfl
theorem wL_L_82 : Cond.methodLink RL 82 yX6_begin ∈ GW := tm4 (List.mem_of_getElem? (i := 214) rfl) rfl
theorem wI_X6_begin : Cond.instanceMethod yX6_begin ∈ GW := tm4 (List.mem_of_getElem? (i := 215) rfl) rfl
theorem wSe_X6_X6_begin : Cond.selects RX6 yX6_begin yX6_begin ∈ GW := tm4 (List.mem_of_getElem? (i := 216) rfl) rfl
theorem wC_X6_begin : Cond.code yX6_begin cX6_begin 4 (some .int) ∈ GW := tm4 (List.mem_of_getElem? (i := 217) rfl) rfl
theorem wL_X6_68 : Cond.methodLink RX6 68 yX6_in ∈ GW := tm4 (List.mem_of_getElem? (i := 218) rfl) rfl
theorem wS_X6_in : Cond.static yX6_in ∈ GW := tm4 (List.mem_of_getElem? (i := 219) rfl) rfl
theorem wC_X6_in : Cond.code yX6_in cX6_in 3 (some .boolean) ∈ GW := tm4 (List.mem_of_getElem? (i := 220) rfl) rfl
theorem wL_X6_146 : Cond.methodLink RX6 146 yX6_goes ∈ GW := tm4 (List.mem_of_getElem? (i := 221) rfl) rfl
theorem wI_X6_goes : Cond.instanceMethod yX6_goes ∈ GW := tm4 (List.mem_of_getElem? (i := 223) rfl) rfl
theorem wC_X6_goes : Cond.code yX6_goes cX6_goes 4 (some .boolean) ∈ GW := tm4 (List.mem_of_getElem? (i := 224) rfl) rfl
theorem wL_X6_150 : Cond.methodLink RX6 150 yX6_saves ∈ GW := tm4 (List.mem_of_getElem? (i := 225) rfl) rfl
theorem wI_X6_saves : Cond.instanceMethod yX6_saves ∈ GW := tm4 (List.mem_of_getElem? (i := 227) rfl) rfl
theorem wC_X6_saves : Cond.code yX6_saves cX6_saves 2 none ∈ GW := tm4 (List.mem_of_getElem? (i := 228) rfl) rfl
theorem wL_X6_75 : Cond.methodLink RX6 75 yX6_copies ∈ GW := tm4 (List.mem_of_getElem? (i := 229) rfl) rfl
theorem wS_X6_copies : Cond.static yX6_copies ∈ GW := tm4 (List.mem_of_getElem? (i := 230) rfl) rfl
theorem wC_X6_copies : Cond.code yX6_copies cX6_copies 5 none ∈ GW := tm4 (List.mem_of_getElem? (i := 231) rfl) rfl
theorem wL_L_89 : Cond.methodLink RL 89 yX6_promise ∈ GW := tm4 (List.mem_of_getElem? (i := 232) rfl) rfl
theorem wI_X6_promise : Cond.instanceMethod yX6_promise ∈ GW := tm4 (List.mem_of_getElem? (i := 233) rfl) rfl
theorem wSe_X6_X6_promise : Cond.selects RX6 yX6_promise yX6_promise ∈ GW := tm4 (List.mem_of_getElem? (i := 234) rfl) rfl
theorem wC_X6_promise : Cond.code yX6_promise cX6_promise 6 (some .int) ∈ GW := tm4 (List.mem_of_getElem? (i := 235) rfl) rfl
theorem wL_X6_153 : Cond.methodLink RX6 153 yX6_isParty ∈ GW := tm4 (List.mem_of_getElem? (i := 236) rfl) rfl
theorem wI_X6_isParty : Cond.instanceMethod yX6_isParty ∈ GW := tm4 (List.mem_of_getElem? (i := 238) rfl) rfl
theorem wC_X6_isParty : Cond.code yX6_isParty cX6_isParty 2 (some .boolean) ∈ GW := tm4 (List.mem_of_getElem? (i := 239) rfl) rfl
theorem wL_X6_156 : Cond.methodLink RX6 156 yX6_makes ∈ GW := tm5 (List.mem_of_getElem? (i := 0) rfl) rfl
theorem wI_X6_makes : Cond.instanceMethod yX6_makes ∈ GW := tm5 (List.mem_of_getElem? (i := 2) rfl) rfl
theorem wC_X6_makes : Cond.code yX6_makes cX6_makes 6 none ∈ GW := tm5 (List.mem_of_getElem? (i := 3) rfl) rfl
theorem wL_X6_79 : Cond.methodLink RX6 79 yX6_p ∈ GW := tm5 (List.mem_of_getElem? (i := 4) rfl) rfl
theorem wS_X6_p : Cond.static yX6_p ∈ GW := tm5 (List.mem_of_getElem? (i := 5) rfl) rfl
theorem wC_X6_p : Cond.code yX6_p cX6_p 2 (some .int) ∈ GW := tm5 (List.mem_of_getElem? (i := 6) rfl) rfl
theorem wL_L_93 : Cond.methodLink RL 93 yX6_pay ∈ GW := tm5 (List.mem_of_getElem? (i := 7) rfl) rfl
theorem wI_X6_pay : Cond.instanceMethod yX6_pay ∈ GW := tm5 (List.mem_of_getElem? (i := 8) rfl) rfl
theorem wSe_X6_X6_pay : Cond.selects RX6 yX6_pay yX6_pay ∈ GW := tm5 (List.mem_of_getElem? (i := 9) rfl) rfl
theorem wC_X6_pay : Cond.code yX6_pay cX6_pay 4 (some .int) ∈ GW := tm5 (List.mem_of_getElem? (i := 10) rfl) rfl
theorem wL_X6_160 : Cond.methodLink RX6 160 yX6_isPromise ∈ GW := tm5 (List.mem_of_getElem? (i := 11) rfl) rfl
theorem wI_X6_isPromise : Cond.instanceMethod yX6_isPromise ∈ GW := tm5 (List.mem_of_getElem? (i := 13) rfl) rfl
theorem wC_X6_isPromise : Cond.code yX6_isPromise cX6_isPromise 2 (some .boolean) ∈ GW := tm5 (List.mem_of_getElem? (i := 14) rfl) rfl
theorem wL_L_96 : Cond.methodLink RL 96 yX6_dispute ∈ GW := tm5 (List.mem_of_getElem? (i := 15) rfl) rfl
theorem wI_X6_dispute : Cond.instanceMethod yX6_dispute ∈ GW := tm5 (List.mem_of_getElem? (i := 16) rfl) rfl
theorem wSe_X6_X6_dispute : Cond.selects RX6 yX6_dispute yX6_dispute ∈ GW := tm5 (List.mem_of_getElem? (i := 17) rfl) rfl
theorem wC_X6_dispute : Cond.code yX6_dispute cX6_dispute 4 (some .int) ∈ GW := tm5 (List.mem_of_getElem? (i := 18) rfl) rfl
theorem wL_X6_163 : Cond.methodLink RX6 163 yX6_isFree ∈ GW := tm5 (List.mem_of_getElem? (i := 19) rfl) rfl
theorem wI_X6_isFree : Cond.instanceMethod yX6_isFree ∈ GW := tm5 (List.mem_of_getElem? (i := 21) rfl) rfl
theorem wC_X6_isFree : Cond.code yX6_isFree cX6_isFree 2 (some .boolean) ∈ GW := tm5 (List.mem_of_getElem? (i := 22) rfl) rfl
theorem wL_X6_166 : Cond.methodLink RX6 166 yX6_countRings ∈ GW := tm5 (List.mem_of_getElem? (i := 23) rfl) rfl
theorem wI_X6_countRings : Cond.instanceMethod yX6_countRings ∈ GW := tm5 (List.mem_of_getElem? (i := 25) rfl) rfl
theorem wC_X6_countRings : Cond.code yX6_countRings cX6_countRings 4 (some .int) ∈ GW := tm5 (List.mem_of_getElem? (i := 26) rfl) rfl
theorem wL_X6_96 : Cond.methodLink RX6 96 yX6_begins ∈ GW := tm5 (List.mem_of_getElem? (i := 27) rfl) rfl
theorem wI_X6_begins : Cond.instanceMethod yX6_begins ∈ GW := tm5 (List.mem_of_getElem? (i := 29) rfl) rfl
theorem wC_X6_begins : Cond.code yX6_begins cX6_begins 5 none ∈ GW := tm5 (List.mem_of_getElem? (i := 30) rfl) rfl
theorem wL_X6_100 : Cond.methodLink RX6 100 yX6_comes ∈ GW := tm5 (List.mem_of_getElem? (i := 31) rfl) rfl
theorem wI_X6_comes : Cond.instanceMethod yX6_comes ∈ GW := tm5 (List.mem_of_getElem? (i := 33) rfl) rfl
theorem wC_X6_comes : Cond.code yX6_comes cX6_comes 2 (some .boolean) ∈ GW := tm5 (List.mem_of_getElem? (i := 34) rfl) rfl
theorem wL_X6_93 : Cond.methodLink RX6 93 yX6_canCome ∈ GW := tm5 (List.mem_of_getElem? (i := 35) rfl) rfl
theorem wI_X6_canCome : Cond.instanceMethod yX6_canCome ∈ GW := tm5 (List.mem_of_getElem? (i := 37) rfl) rfl
theorem wC_X6_canCome : Cond.code yX6_canCome cX6_canCome 2 (some .boolean) ∈ GW := tm5 (List.mem_of_getElem? (i := 38) rfl) rfl
theorem wL_X6_89 : Cond.methodLink RX6 89 yX6_isInRow ∈ GW := tm5 (List.mem_of_getElem? (i := 39) rfl) rfl
theorem wI_X6_isInRow : Cond.instanceMethod yX6_isInRow ∈ GW := tm5 (List.mem_of_getElem? (i := 41) rfl) rfl
theorem wC_X6_isInRow : Cond.code yX6_isInRow cX6_isInRow 3 (some .boolean) ∈ GW := tm5 (List.mem_of_getElem? (i := 42) rfl) rfl
theorem wL_L_99 : Cond.methodLink RL 99 yX6_settle ∈ GW := tm5 (List.mem_of_getElem? (i := 43) rfl) rfl
theorem wI_X6_settle : Cond.instanceMethod yX6_settle ∈ GW := tm5 (List.mem_of_getElem? (i := 44) rfl) rfl
theorem wSe_X6_X6_settle : Cond.selects RX6 yX6_settle yX6_settle ∈ GW := tm5 (List.mem_of_getElem? (i := 45) rfl) rfl
theorem wC_X6_settle : Cond.code yX6_settle cX6_settle 3 (some .int) ∈ GW := tm5 (List.mem_of_getElem? (i := 46) rfl) rfl
theorem wL_L_102 : Cond.methodLink RL 102 yX6_discharge ∈ GW := tm5 (List.mem_of_getElem? (i := 47) rfl) rfl
theorem wI_X6_discharge : Cond.instanceMethod yX6_discharge ∈ GW := tm5 (List.mem_of_getElem? (i := 48) rfl) rfl
theorem wSe_X6_X6_discharge : Cond.selects RX6 yX6_discharge yX6_discharge ∈ GW := tm5 (List.mem_of_getElem? (i := 49) rfl) rfl
theorem wC_X6_discharge : Cond.code yX6_discharge cX6_discharge 4 (some .int) ∈ GW := tm5 (List.mem_of_getElem? (i := 50) rfl) rfl
theorem wL_X6_169 : Cond.methodLink RX6 169 yX6_findsRing ∈ GW := tm5 (List.mem_of_getElem? (i := 51) rfl) rfl
theorem wI_X6_findsRing : Cond.instanceMethod yX6_findsRing ∈ GW := tm5 (List.mem_of_getElem? (i := 53) rfl) rfl
theorem wC_X6_findsRing : Cond.code yX6_findsRing cX6_findsRing 3 (some .boolean) ∈ GW := tm5 (List.mem_of_getElem? (i := 54) rfl) rfl
theorem wL_X6_127 : Cond.methodLink RX6 127 yX6_roomOf ∈ GW := tm5 (List.mem_of_getElem? (i := 55) rfl) rfl
theorem wI_X6_roomOf : Cond.instanceMethod yX6_roomOf ∈ GW := tm5 (List.mem_of_getElem? (i := 57) rfl) rfl
theorem wC_X6_roomOf : Cond.code yX6_roomOf cX6_roomOf 3 (some .int) ∈ GW := tm5 (List.mem_of_getElem? (i := 58) rfl) rfl
theorem wL_X6_104 : Cond.methodLink RX6 104 yX6_least ∈ GW := tm5 (List.mem_of_getElem? (i := 59) rfl) rfl
theorem wS_X6_least : Cond.static yX6_least ∈ GW := tm5 (List.mem_of_getElem? (i := 60) rfl) rfl
theorem wC_X6_least : Cond.code yX6_least cX6_least 2 (some .int) ∈ GW := tm5 (List.mem_of_getElem? (i := 61) rfl) rfl
theorem wL_X6_134 : Cond.methodLink RX6 134 yX6_discharges ∈ GW := tm5 (List.mem_of_getElem? (i := 62) rfl) rfl
theorem wI_X6_discharges : Cond.instanceMethod yX6_discharges ∈ GW := tm5 (List.mem_of_getElem? (i := 64) rfl) rfl
theorem wC_X6_discharges : Cond.code yX6_discharges cX6_discharges 5 (some .int) ∈ GW := tm5 (List.mem_of_getElem? (i := 65) rfl) rfl
theorem wL_X6_114 : Cond.methodLink RX6 114 yX6_savingBy ∈ GW := tm5 (List.mem_of_getElem? (i := 66) rfl) rfl
theorem wI_X6_savingBy : Cond.instanceMethod yX6_savingBy ∈ GW := tm5 (List.mem_of_getElem? (i := 68) rfl) rfl
theorem wC_X6_savingBy : Cond.code yX6_savingBy cX6_savingBy 4 (some .int) ∈ GW := tm5 (List.mem_of_getElem? (i := 69) rfl) rfl
theorem wL_X6_107 : Cond.methodLink RX6 107 yX6_follower ∈ GW := tm5 (List.mem_of_getElem? (i := 70) rfl) rfl
theorem wI_X6_follower : Cond.instanceMethod yX6_follower ∈ GW := tm5 (List.mem_of_getElem? (i := 72) rfl) rfl
theorem wC_X6_follower : Cond.code yX6_follower cX6_follower 2 (some .int) ∈ GW := tm5 (List.mem_of_getElem? (i := 73) rfl) rfl
theorem wL_X6_111 : Cond.methodLink RX6 111 yX6_costBy ∈ GW := tm5 (List.mem_of_getElem? (i := 74) rfl) rfl
theorem wI_X6_costBy : Cond.instanceMethod yX6_costBy ∈ GW := tm5 (List.mem_of_getElem? (i := 76) rfl) rfl
theorem wC_X6_costBy : Cond.code yX6_costBy cX6_costBy 7 (some .int) ∈ GW := tm5 (List.mem_of_getElem? (i := 77) rfl) rfl
theorem wL_X6_117 : Cond.methodLink RX6 117 yX6_releases ∈ GW := tm5 (List.mem_of_getElem? (i := 78) rfl) rfl
theorem wS_X6_releases : Cond.static yX6_releases ∈ GW := tm5 (List.mem_of_getElem? (i := 79) rfl) rfl
theorem wC_X6_releases : Cond.code yX6_releases cX6_releases 9 none ∈ GW := tm5 (List.mem_of_getElem? (i := 80) rfl) rfl
theorem wL_L_106 : Cond.methodLink RL 106 yX6_dischargeBest ∈ GW := tm5 (List.mem_of_getElem? (i := 81) rfl) rfl
theorem wI_X6_dischargeBest : Cond.instanceMethod yX6_dischargeBest ∈ GW := tm5 (List.mem_of_getElem? (i := 82) rfl) rfl
theorem wSe_X6_X6_dischargeBest : Cond.selects RX6 yX6_dischargeBest yX6_dischargeBest ∈ GW := tm5 (List.mem_of_getElem? (i := 83) rfl) rfl
theorem wC_X6_dischargeBest : Cond.code yX6_dischargeBest cX6_dischargeBest 1 (some .int) ∈ GW := tm5 (List.mem_of_getElem? (i := 84) rfl) rfl
theorem wL_X6_138 : Cond.methodLink RX6 138 yX6_findsBest ∈ GW := tm5 (List.mem_of_getElem? (i := 85) rfl) rfl
theorem wI_X6_findsBest : Cond.instanceMethod yX6_findsBest ∈ GW := tm5 (List.mem_of_getElem? (i := 87) rfl) rfl
theorem wC_X6_findsBest : Cond.code yX6_findsBest cX6_findsBest 5 (some .boolean) ∈ GW := tm5 (List.mem_of_getElem? (i := 88) rfl) rfl
theorem wL_X6_142 : Cond.methodLink RX6 142 yX6_dischargesBest ∈ GW := tm5 (List.mem_of_getElem? (i := 89) rfl) rfl
theorem wI_X6_dischargesBest : Cond.instanceMethod yX6_dischargesBest ∈ GW := tm5 (List.mem_of_getElem? (i := 91) rfl) rfl
theorem wC_X6_dischargesBest : Cond.code yX6_dischargesBest cX6_dischargesBest 3 none ∈ GW := tm5 (List.mem_of_getElem? (i := 92) rfl) rfl
theorem wL_L_110 : Cond.methodLink RL 110 yX6_dischargeAll ∈ GW := tm5 (List.mem_of_getElem? (i := 93) rfl) rfl
theorem wI_X6_dischargeAll : Cond.instanceMethod yX6_dischargeAll ∈ GW := tm5 (List.mem_of_getElem? (i := 94) rfl) rfl
theorem wSe_X6_X6_dischargeAll : Cond.selects RX6 yX6_dischargeAll yX6_dischargeAll ∈ GW := tm5 (List.mem_of_getElem? (i := 95) rfl) rfl
theorem wC_X6_dischargeAll : Cond.code yX6_dischargeAll cX6_dischargeAll 1 (some .int) ∈ GW := tm5 (List.mem_of_getElem? (i := 96) rfl) rfl
theorem wL_X6_172 : Cond.methodLink RX6 172 yX6_dischargesAll ∈ GW := tm5 (List.mem_of_getElem? (i := 97) rfl) rfl
theorem wI_X6_dischargesAll : Cond.instanceMethod yX6_dischargesAll ∈ GW := tm5 (List.mem_of_getElem? (i := 99) rfl) rfl
theorem wC_X6_dischargesAll : Cond.code yX6_dischargesAll cX6_dischargesAll 3 (some .int) ∈ GW := tm5 (List.mem_of_getElem? (i := 100) rfl) rfl
theorem wL_L_113 : Cond.methodLink RL 113 yX6_promiseOf ∈ GW := tm5 (List.mem_of_getElem? (i := 101) rfl) rfl
theorem wI_X6_promiseOf : Cond.instanceMethod yX6_promiseOf ∈ GW := tm5 (List.mem_of_getElem? (i := 102) rfl) rfl
theorem wSe_X6_X6_promiseOf : Cond.selects RX6 yX6_promiseOf yX6_promiseOf ∈ GW := tm5 (List.mem_of_getElem? (i := 103) rfl) rfl
theorem wC_X6_promiseOf : Cond.code yX6_promiseOf cX6_promiseOf 3 (some .int) ∈ GW := tm5 (List.mem_of_getElem? (i := 104) rfl) rfl
theorem wL_L_116 : Cond.methodLink RL 116 yX6_debt ∈ GW := tm5 (List.mem_of_getElem? (i := 105) rfl) rfl
theorem wI_X6_debt : Cond.instanceMethod yX6_debt ∈ GW := tm5 (List.mem_of_getElem? (i := 106) rfl) rfl
theorem wSe_X6_X6_debt : Cond.selects RX6 yX6_debt yX6_debt ∈ GW := tm5 (List.mem_of_getElem? (i := 107) rfl) rfl
theorem wC_X6_debt : Cond.code yX6_debt cX6_debt 3 (some .int) ∈ GW := tm5 (List.mem_of_getElem? (i := 108) rfl) rfl
theorem wL_X6_176 : Cond.methodLink RX6 176 yX6_debtOf ∈ GW := tm5 (List.mem_of_getElem? (i := 109) rfl) rfl
theorem wI_X6_debtOf : Cond.instanceMethod yX6_debtOf ∈ GW := tm5 (List.mem_of_getElem? (i := 111) rfl) rfl
theorem wC_X6_debtOf : Cond.code yX6_debtOf cX6_debtOf 3 (some .int) ∈ GW := tm5 (List.mem_of_getElem? (i := 112) rfl) rfl
theorem wL_L_119 : Cond.methodLink RL 119 yX6_net ∈ GW := tm5 (List.mem_of_getElem? (i := 113) rfl) rfl
theorem wI_X6_net : Cond.instanceMethod yX6_net ∈ GW := tm5 (List.mem_of_getElem? (i := 114) rfl) rfl
theorem wSe_X6_X6_net : Cond.selects RX6 yX6_net yX6_net ∈ GW := tm5 (List.mem_of_getElem? (i := 115) rfl) rfl
theorem wC_X6_net : Cond.code yX6_net cX6_net 2 (some .int) ∈ GW := tm5 (List.mem_of_getElem? (i := 116) rfl) rfl
theorem wL_X6_179 : Cond.methodLink RX6 179 yX6_netOf ∈ GW := tm5 (List.mem_of_getElem? (i := 117) rfl) rfl
theorem wI_X6_netOf : Cond.instanceMethod yX6_netOf ∈ GW := tm5 (List.mem_of_getElem? (i := 119) rfl) rfl
theorem wC_X6_netOf : Cond.code yX6_netOf cX6_netOf 4 (some .int) ∈ GW := tm5 (List.mem_of_getElem? (i := 120) rfl) rfl
theorem wL_L_122 : Cond.methodLink RL 122 yX6_ring ∈ GW := tm5 (List.mem_of_getElem? (i := 121) rfl) rfl
theorem wI_X6_ring : Cond.instanceMethod yX6_ring ∈ GW := tm5 (List.mem_of_getElem? (i := 122) rfl) rfl
theorem wSe_X6_X6_ring : Cond.selects RX6 yX6_ring yX6_ring ∈ GW := tm5 (List.mem_of_getElem? (i := 123) rfl) rfl
theorem wC_X6_ring : Cond.code yX6_ring cX6_ring 3 (some .int) ∈ GW := tm5 (List.mem_of_getElem? (i := 124) rfl) rfl
theorem wL_L_125 : Cond.methodLink RL 125 yX6_room ∈ GW := tm5 (List.mem_of_getElem? (i := 125) rfl) rfl
theorem wI_X6_room : Cond.instanceMethod yX6_room ∈ GW := tm5 (List.mem_of_getElem? (i := 126) rfl) rfl
theorem wSe_X6_X6_room : Cond.selects RX6 yX6_room yX6_room ∈ GW := tm5 (List.mem_of_getElem? (i := 127) rfl) rfl
theorem wC_X6_room : Cond.code yX6_room cX6_room 2 (some .int) ∈ GW := tm5 (List.mem_of_getElem? (i := 128) rfl) rfl
theorem wL_L_128 : Cond.methodLink RL 128 yX6_value ∈ GW := tm5 (List.mem_of_getElem? (i := 129) rfl) rfl
theorem wI_X6_value : Cond.instanceMethod yX6_value ∈ GW := tm5 (List.mem_of_getElem? (i := 130) rfl) rfl
theorem wSe_X6_X6_value : Cond.selects RX6 yX6_value yX6_value ∈ GW := tm5 (List.mem_of_getElem? (i := 131) rfl) rfl
theorem wC_X6_value : Cond.code yX6_value cX6_value 2 (some .int) ∈ GW := tm5 (List.mem_of_getElem? (i := 132) rfl) rfl
theorem wL_X6_185 : Cond.methodLink RX6 185 yX6_one ∈ GW := tm5 (List.mem_of_getElem? (i := 133) rfl) rfl
theorem wI_X6_one : Cond.instanceMethod yX6_one ∈ GW := tm5 (List.mem_of_getElem? (i := 135) rfl) rfl
theorem wC_X6_one : Cond.code yX6_one cX6_one 8 (some .int) ∈ GW := tm5 (List.mem_of_getElem? (i := 136) rfl) rfl
theorem wL_X6_182 : Cond.methodLink RX6 182 yX6_costOf ∈ GW := tm5 (List.mem_of_getElem? (i := 137) rfl) rfl
theorem wS_X6_costOf : Cond.static yX6_costOf ∈ GW := tm5 (List.mem_of_getElem? (i := 138) rfl) rfl
theorem wC_X6_costOf : Cond.code yX6_costOf cX6_costOf 3 (some .int) ∈ GW := tm5 (List.mem_of_getElem? (i := 139) rfl) rfl
theorem wL_L_131 : Cond.methodLink RL 131 yX6_saving ∈ GW := tm5 (List.mem_of_getElem? (i := 140) rfl) rfl
theorem wI_X6_saving : Cond.instanceMethod yX6_saving ∈ GW := tm5 (List.mem_of_getElem? (i := 141) rfl) rfl
theorem wSe_X6_X6_saving : Cond.selects RX6 yX6_saving yX6_saving ∈ GW := tm5 (List.mem_of_getElem? (i := 142) rfl) rfl
theorem wC_X6_saving : Cond.code yX6_saving cX6_saving 2 (some .int) ∈ GW := tm5 (List.mem_of_getElem? (i := 143) rfl) rfl
theorem wL_L_135 : Cond.methodLink RL 135 yX6_bestRing ∈ GW := tm5 (List.mem_of_getElem? (i := 144) rfl) rfl
theorem wI_X6_bestRing : Cond.instanceMethod yX6_bestRing ∈ GW := tm5 (List.mem_of_getElem? (i := 145) rfl) rfl
theorem wSe_X6_X6_bestRing : Cond.selects RX6 yX6_bestRing yX6_bestRing ∈ GW := tm5 (List.mem_of_getElem? (i := 146) rfl) rfl
theorem wC_X6_bestRing : Cond.code yX6_bestRing cX6_bestRing 1 (some .int) ∈ GW := tm5 (List.mem_of_getElem? (i := 147) rfl) rfl
theorem wL_L_139 : Cond.methodLink RL 139 yX6_costByRings ∈ GW := tm5 (List.mem_of_getElem? (i := 148) rfl) rfl
theorem wI_X6_costByRings : Cond.instanceMethod yX6_costByRings ∈ GW := tm5 (List.mem_of_getElem? (i := 149) rfl) rfl
theorem wSe_X6_X6_costByRings : Cond.selects RX6 yX6_costByRings yX6_costByRings ∈ GW := tm5 (List.mem_of_getElem? (i := 150) rfl) rfl
theorem wC_X6_costByRings : Cond.code yX6_costByRings cX6_costByRings 1 (some .int) ∈ GW := tm5 (List.mem_of_getElem? (i := 151) rfl) rfl
theorem wL_L_143 : Cond.methodLink RL 143 yX6_leastCost ∈ GW := tm5 (List.mem_of_getElem? (i := 152) rfl) rfl
theorem wI_X6_leastCost : Cond.instanceMethod yX6_leastCost ∈ GW := tm5 (List.mem_of_getElem? (i := 153) rfl) rfl
theorem wSe_X6_X6_leastCost : Cond.selects RX6 yX6_leastCost yX6_leastCost ∈ GW := tm5 (List.mem_of_getElem? (i := 154) rfl) rfl
theorem wC_X6_leastCost : Cond.code yX6_leastCost cX6_leastCost 1 (some .int) ∈ GW := tm5 (List.mem_of_getElem? (i := 155) rfl) rfl
theorem wL_X6_204 : Cond.methodLink RX6 204 yX6_leastOf ∈ GW := tm5 (List.mem_of_getElem? (i := 156) rfl) rfl
theorem wI_X6_leastOf : Cond.instanceMethod yX6_leastOf ∈ GW := tm5 (List.mem_of_getElem? (i := 158) rfl) rfl
theorem wC_X6_leastOf : Cond.code yX6_leastOf cX6_leastOf 4 (some .int) ∈ GW := tm5 (List.mem_of_getElem? (i := 159) rfl) rfl
theorem wL_X6_194 : Cond.methodLink RX6 194 yX6_ways ∈ GW := tm5 (List.mem_of_getElem? (i := 160) rfl) rfl
theorem wI_X6_ways : Cond.instanceMethod yX6_ways ∈ GW := tm5 (List.mem_of_getElem? (i := 162) rfl) rfl
theorem wC_X6_ways : Cond.code yX6_ways cX6_ways 4 none ∈ GW := tm5 (List.mem_of_getElem? (i := 163) rfl) rfl
theorem wL_X6_188 : Cond.methodLink RX6 188 yX6_nears ∈ GW := tm5 (List.mem_of_getElem? (i := 164) rfl) rfl
theorem wI_X6_nears : Cond.instanceMethod yX6_nears ∈ GW := tm5 (List.mem_of_getElem? (i := 166) rfl) rfl
theorem wC_X6_nears : Cond.code yX6_nears cX6_nears 5 none ∈ GW := tm5 (List.mem_of_getElem? (i := 167) rfl) rfl
theorem wL_X6_197 : Cond.methodLink RX6 197 yX6_nearest ∈ GW := tm5 (List.mem_of_getElem? (i := 168) rfl) rfl
theorem wI_X6_nearest : Cond.instanceMethod yX6_nearest ∈ GW := tm5 (List.mem_of_getElem? (i := 170) rfl) rfl
theorem wC_X6_nearest : Cond.code yX6_nearest cX6_nearest 3 (some .int) ∈ GW := tm5 (List.mem_of_getElem? (i := 171) rfl) rfl
theorem wL_X6_200 : Cond.methodLink RX6 200 yX6_staysMore ∈ GW := tm5 (List.mem_of_getElem? (i := 172) rfl) rfl
theorem wI_X6_staysMore : Cond.instanceMethod yX6_staysMore ∈ GW := tm5 (List.mem_of_getElem? (i := 174) rfl) rfl
theorem wC_X6_staysMore : Cond.code yX6_staysMore cX6_staysMore 5 none ∈ GW := tm5 (List.mem_of_getElem? (i := 175) rfl) rfl
theorem wL_X6_191 : Cond.methodLink RX6 191 yX6_ahead ∈ GW := tm5 (List.mem_of_getElem? (i := 176) rfl) rfl
theorem wI_X6_ahead : Cond.instanceMethod yX6_ahead ∈ GW := tm5 (List.mem_of_getElem? (i := 178) rfl) rfl
theorem wC_X6_ahead : Cond.code yX6_ahead cX6_ahead 2 (some .int) ∈ GW := tm5 (List.mem_of_getElem? (i := 179) rfl) rfl
theorem wL_L_146 : Cond.methodLink RL 146 yX6_ringsWithout ∈ GW := tm5 (List.mem_of_getElem? (i := 180) rfl) rfl
theorem wI_X6_ringsWithout : Cond.instanceMethod yX6_ringsWithout ∈ GW := tm5 (List.mem_of_getElem? (i := 181) rfl) rfl
theorem wSe_X6_X6_ringsWithout : Cond.selects RX6 yX6_ringsWithout yX6_ringsWithout ∈ GW := tm5 (List.mem_of_getElem? (i := 182) rfl) rfl
theorem wC_X6_ringsWithout : Cond.code yX6_ringsWithout cX6_ringsWithout 2 (some .int) ∈ GW := tm5 (List.mem_of_getElem? (i := 183) rfl) rfl
theorem wL_L_150 : Cond.methodLink RL 150 yX6_keyPromise ∈ GW := tm5 (List.mem_of_getElem? (i := 184) rfl) rfl
theorem wI_X6_keyPromise : Cond.instanceMethod yX6_keyPromise ∈ GW := tm5 (List.mem_of_getElem? (i := 185) rfl) rfl
theorem wSe_X6_X6_keyPromise : Cond.selects RX6 yX6_keyPromise yX6_keyPromise ∈ GW := tm5 (List.mem_of_getElem? (i := 186) rfl) rfl
theorem wC_X6_keyPromise : Cond.code yX6_keyPromise cX6_keyPromise 6 (some .int) ∈ GW := tm5 (List.mem_of_getElem? (i := 187) rfl) rfl
theorem wL_L_153 : Cond.methodLink RL 153 yX6_mutual ∈ GW := tm5 (List.mem_of_getElem? (i := 188) rfl) rfl
theorem wI_X6_mutual : Cond.instanceMethod yX6_mutual ∈ GW := tm5 (List.mem_of_getElem? (i := 189) rfl) rfl
theorem wSe_X6_X6_mutual : Cond.selects RX6 yX6_mutual yX6_mutual ∈ GW := tm5 (List.mem_of_getElem? (i := 190) rfl) rfl
theorem wC_X6_mutual : Cond.code yX6_mutual cX6_mutual 4 (some .int) ∈ GW := tm5 (List.mem_of_getElem? (i := 191) rfl) rfl
theorem wL_L_156 : Cond.methodLink RL 156 yX6_append ∈ GW := tm5 (List.mem_of_getElem? (i := 192) rfl) rfl
theorem wI_X6_append : Cond.instanceMethod yX6_append ∈ GW := tm5 (List.mem_of_getElem? (i := 193) rfl) rfl
theorem wSe_X6_X6_append : Cond.selects RX6 yX6_append yX6_append ∈ GW := tm5 (List.mem_of_getElem? (i := 194) rfl) rfl
theorem wC_X6_append : Cond.code yX6_append cX6_append 2 (some .int) ∈ GW := tm5 (List.mem_of_getElem? (i := 195) rfl) rfl
theorem wL_L_160 : Cond.methodLink RL 160 yX6_clearText ∈ GW := tm5 (List.mem_of_getElem? (i := 196) rfl) rfl
theorem wI_X6_clearText : Cond.instanceMethod yX6_clearText ∈ GW := tm5 (List.mem_of_getElem? (i := 197) rfl) rfl
theorem wSe_X6_X6_clearText : Cond.selects RX6 yX6_clearText yX6_clearText ∈ GW := tm5 (List.mem_of_getElem? (i := 198) rfl) rfl
theorem wC_X6_clearText : Cond.code yX6_clearText cX6_clearText 2 (some .int) ∈ GW := tm5 (List.mem_of_getElem? (i := 199) rfl) rfl
theorem wL_L_164 : Cond.methodLink RL 164 yX6_carryOut ∈ GW := tm5 (List.mem_of_getElem? (i := 200) rfl) rfl
theorem wI_X6_carryOut : Cond.instanceMethod yX6_carryOut ∈ GW := tm5 (List.mem_of_getElem? (i := 201) rfl) rfl
theorem wSe_X6_X6_carryOut : Cond.selects RX6 yX6_carryOut yX6_carryOut ∈ GW := tm5 (List.mem_of_getElem? (i := 202) rfl) rfl
theorem wC_X6_carryOut : Cond.code yX6_carryOut cX6_carryOut 2 (some .int) ∈ GW := tm5 (List.mem_of_getElem? (i := 203) rfl) rfl
theorem wL_X6_239 : Cond.methodLink RX6 239 yX6_readsOrder ∈ GW := tm5 (List.mem_of_getElem? (i := 204) rfl) rfl
theorem wI_X6_readsOrder : Cond.instanceMethod yX6_readsOrder ∈ GW := tm5 (List.mem_of_getElem? (i := 206) rfl) rfl
theorem wC_X6_readsOrder : Cond.code yX6_readsOrder cX6_readsOrder 2 none ∈ GW := tm5 (List.mem_of_getElem? (i := 207) rfl) rfl
theorem wL_X6_216 : Cond.methodLink RX6 216 yX6_look ∈ GW := tm5 (List.mem_of_getElem? (i := 208) rfl) rfl
theorem wI_X6_look : Cond.instanceMethod yX6_look ∈ GW := tm5 (List.mem_of_getElem? (i := 210) rfl) rfl
theorem wC_X6_look : Cond.code yX6_look cX6_look 1 (some .int) ∈ GW := tm5 (List.mem_of_getElem? (i := 211) rfl) rfl
theorem wL_X6_225 : Cond.methodLink RX6 225 yX6_digit ∈ GW := tm5 (List.mem_of_getElem? (i := 212) rfl) rfl
theorem wI_X6_digit : Cond.instanceMethod yX6_digit ∈ GW := tm5 (List.mem_of_getElem? (i := 214) rfl) rfl
theorem wC_X6_digit : Cond.code yX6_digit cX6_digit 3 none ∈ GW := tm5 (List.mem_of_getElem? (i := 215) rfl) rfl
theorem wL_X6_219 : Cond.methodLink RX6 219 yX6_fails ∈ GW := tm5 (List.mem_of_getElem? (i := 216) rfl) rfl
theorem wI_X6_fails : Cond.instanceMethod yX6_fails ∈ GW := tm5 (List.mem_of_getElem? (i := 218) rfl) rfl
theorem wC_X6_fails : Cond.code yX6_fails cX6_fails 2 none ∈ GW := tm5 (List.mem_of_getElem? (i := 219) rfl) rfl
theorem wL_X6_232 : Cond.methodLink RX6 232 yX6_sign ∈ GW := tm5 (List.mem_of_getElem? (i := 220) rfl) rfl
theorem wI_X6_sign : Cond.instanceMethod yX6_sign ∈ GW := tm5 (List.mem_of_getElem? (i := 222) rfl) rfl
theorem wC_X6_sign : Cond.code yX6_sign cX6_sign 2 none ∈ GW := tm5 (List.mem_of_getElem? (i := 223) rfl) rfl
theorem wL_X6_235 : Cond.methodLink RX6 235 yX6_figures ∈ GW := tm5 (List.mem_of_getElem? (i := 224) rfl) rfl
theorem wI_X6_figures : Cond.instanceMethod yX6_figures ∈ GW := tm5 (List.mem_of_getElem? (i := 226) rfl) rfl
theorem wC_X6_figures : Cond.code yX6_figures cX6_figures 5 none ∈ GW := tm5 (List.mem_of_getElem? (i := 227) rfl) rfl
theorem wL_X6_242 : Cond.methodLink RX6 242 yX6_can ∈ GW := tm5 (List.mem_of_getElem? (i := 228) rfl) rfl
theorem wI_X6_can : Cond.instanceMethod yX6_can ∈ GW := tm5 (List.mem_of_getElem? (i := 230) rfl) rfl
theorem wC_X6_can : Cond.code yX6_can cX6_can 3 (some .boolean) ∈ GW := tm5 (List.mem_of_getElem? (i := 231) rfl) rfl
theorem wL_X6_245 : Cond.methodLink RX6 245 yX6_does ∈ GW := tm5 (List.mem_of_getElem? (i := 232) rfl) rfl
theorem wI_X6_does : Cond.instanceMethod yX6_does ∈ GW := tm5 (List.mem_of_getElem? (i := 234) rfl) rfl
theorem wC_X6_does : Cond.code yX6_does cX6_does 2 none ∈ GW := tm5 (List.mem_of_getElem? (i := 235) rfl) rfl
theorem wL_L_167 : Cond.methodLink RL 167 yX6_undo ∈ GW := tm5 (List.mem_of_getElem? (i := 236) rfl) rfl
theorem wI_X6_undo : Cond.instanceMethod yX6_undo ∈ GW := tm5 (List.mem_of_getElem? (i := 237) rfl) rfl
theorem wSe_X6_X6_undo : Cond.selects RX6 yX6_undo yX6_undo ∈ GW := tm5 (List.mem_of_getElem? (i := 238) rfl) rfl
theorem wC_X6_undo : Cond.code yX6_undo cX6_undo 1 (some .int) ∈ GW := tm5 (List.mem_of_getElem? (i := 239) rfl) rfl
theorem wL_L_172 : Cond.methodLink RL 172 yX6_digest ∈ GW := tm6 (List.mem_of_getElem? (i := 0) rfl) rfl
theorem wI_X6_digest : Cond.instanceMethod yX6_digest ∈ GW := tm6 (List.mem_of_getElem? (i := 1) rfl) rfl
theorem wSe_X6_X6_digest : Cond.selects RX6 yX6_digest yX6_digest ∈ GW := tm6 (List.mem_of_getElem? (i := 2) rfl) rfl
theorem wC_X6_digest : Cond.code yX6_digest cX6_digest 5 (some .long) ∈ GW := tm6 (List.mem_of_getElem? (i := 3) rfl) rfl
theorem wN_X6_248 : Cond.constantLong RX6 248 114731 ∈ GW := tm6 (List.mem_of_getElem? (i := 4) rfl) rfl
theorem wN_X6_250 : Cond.constantLong RX6 250 31 ∈ GW := tm6 (List.mem_of_getElem? (i := 5) rfl) rfl
theorem wA__long : Cond.arrayClass .long ∈ GW := tm6 (List.mem_of_getElem? (i := 6) rfl) rfl
theorem wSe_X5_X5_save : Cond.selects RX5 yX5_save yX5_save ∈ GW := tmP (List.mem_of_getElem? (i := 0) rfl) rfl
theorem wSe_X5_X5_dropOldest : Cond.selects RX5 yX5_dropOldest yX5_dropOldest ∈ GW := tmP (List.mem_of_getElem? (i := 1) rfl) rfl
theorem wSe_X1_X1_putFirst : Cond.selects RX1 yX1_putFirst yX1_putFirst ∈ GW := tmP (List.mem_of_getElem? (i := 2) rfl) rfl
theorem wSe_X4_X4_addRow : Cond.selects RX4 yX4_addRow yX4_addRow ∈ GW := tmP (List.mem_of_getElem? (i := 3) rfl) rfl
theorem wSe_X4_X4_rowAt : Cond.selects RX4 yX4_rowAt yX4_rowAt ∈ GW := tmP (List.mem_of_getElem? (i := 4) rfl) rfl
theorem wSe_X3_X3_start : Cond.selects RX3 yX3_start yX3_start ∈ GW := tmP (List.mem_of_getElem? (i := 5) rfl) rfl
theorem wSe_X3_X3_addExcess : Cond.selects RX3 yX3_addExcess yX3_addExcess ∈ GW := tmP (List.mem_of_getElem? (i := 6) rfl) rfl
theorem wSe_X3_X3_measure : Cond.selects RX3 yX3_measure yX3_measure ∈ GW := tmP (List.mem_of_getElem? (i := 7) rfl) rfl
theorem wSe_X3_X3_shorten : Cond.selects RX3 yX3_shorten yX3_shorten ∈ GW := tmP (List.mem_of_getElem? (i := 8) rfl) rfl
theorem wSe_X3_X3_reach : Cond.selects RX3 yX3_reach yX3_reach ∈ GW := tmP (List.mem_of_getElem? (i := 9) rfl) rfl
theorem wSe_X3_X3_nearestEnd : Cond.selects RX3 yX3_nearestEnd yX3_nearestEnd ∈ GW := tmP (List.mem_of_getElem? (i := 10) rfl) rfl
theorem wSe_X3_X3_push : Cond.selects RX3 yX3_push yX3_push ∈ GW := tmP (List.mem_of_getElem? (i := 11) rfl) rfl
theorem wSe_X3_X3_originOf : Cond.selects RX3 yX3_originOf yX3_originOf ∈ GW := tmP (List.mem_of_getElem? (i := 12) rfl) rfl
theorem wSe_X3_X3_promiseTo : Cond.selects RX3 yX3_promiseTo yX3_promiseTo ∈ GW := tmP (List.mem_of_getElem? (i := 13) rfl) rfl
theorem wSe_X3_X3_before : Cond.selects RX3 yX3_before yX3_before ∈ GW := tmP (List.mem_of_getElem? (i := 14) rfl) rfl
theorem wSe_X3_X3_widthTo : Cond.selects RX3 yX3_widthTo yX3_widthTo ∈ GW := tmP (List.mem_of_getElem? (i := 15) rfl) rfl
theorem wSe_X3_X3_costThatStays : Cond.selects RX3 yX3_costThatStays yX3_costThatStays ∈ GW := tmP (List.mem_of_getElem? (i := 16) rfl) rfl
theorem wSe_X2_X2_peek : Cond.selects RX2 yX2_peek yX2_peek ∈ GW := tmP (List.mem_of_getElem? (i := 17) rfl) rfl
theorem wSe_X2_X2_readPromise : Cond.selects RX2 yX2_readPromise yX2_readPromise ∈ GW := tmP (List.mem_of_getElem? (i := 18) rfl) rfl
theorem wSe_X2_X2_readDigit : Cond.selects RX2 yX2_readDigit yX2_readDigit ∈ GW := tmP (List.mem_of_getElem? (i := 19) rfl) rfl
theorem wSe_X2_X2_fail : Cond.selects RX2 yX2_fail yX2_fail ∈ GW := tmP (List.mem_of_getElem? (i := 20) rfl) rfl
theorem wSe_X2_X2_readSign : Cond.selects RX2 yX2_readSign yX2_readSign ∈ GW := tmP (List.mem_of_getElem? (i := 21) rfl) rfl
theorem wSe_X2_X2_readNumber : Cond.selects RX2 yX2_readNumber yX2_readNumber ∈ GW := tmP (List.mem_of_getElem? (i := 22) rfl) rfl
theorem wSe_X5_X5_carryOutOrder : Cond.selects RX5 yX5_carryOutOrder yX5_carryOutOrder ∈ GW := tmP (List.mem_of_getElem? (i := 23) rfl) rfl
theorem wSe_X5_X5_makeOrdered : Cond.selects RX5 yX5_makeOrdered yX5_makeOrdered ∈ GW := tmP (List.mem_of_getElem? (i := 24) rfl) rfl
theorem wSe_X5_X5_disputeOrdered : Cond.selects RX5 yX5_disputeOrdered yX5_disputeOrdered ∈ GW := tmP (List.mem_of_getElem? (i := 25) rfl) rfl
theorem wSe_X5_X5_settleOrdered : Cond.selects RX5 yX5_settleOrdered yX5_settleOrdered ∈ GW := tmP (List.mem_of_getElem? (i := 26) rfl) rfl
theorem wSe_X5_X5_countRings : Cond.selects RX5 yX5_countRings yX5_countRings ∈ GW := tmP (List.mem_of_getElem? (i := 27) rfl) rfl
theorem wSe_X6_X6_goes : Cond.selects RX6 yX6_goes yX6_goes ∈ GW := tmP (List.mem_of_getElem? (i := 29) rfl) rfl
theorem wSe_X6_X6_saves : Cond.selects RX6 yX6_saves yX6_saves ∈ GW := tmP (List.mem_of_getElem? (i := 30) rfl) rfl
theorem wSe_X6_X6_isParty : Cond.selects RX6 yX6_isParty yX6_isParty ∈ GW := tmP (List.mem_of_getElem? (i := 31) rfl) rfl
theorem wSe_X6_X6_makes : Cond.selects RX6 yX6_makes yX6_makes ∈ GW := tmP (List.mem_of_getElem? (i := 32) rfl) rfl
theorem wSe_X6_X6_isPromise : Cond.selects RX6 yX6_isPromise yX6_isPromise ∈ GW := tmP (List.mem_of_getElem? (i := 33) rfl) rfl
theorem wSe_X6_X6_isFree : Cond.selects RX6 yX6_isFree yX6_isFree ∈ GW := tmP (List.mem_of_getElem? (i := 34) rfl) rfl
theorem wSe_X6_X6_countRings : Cond.selects RX6 yX6_countRings yX6_countRings ∈ GW := tmP (List.mem_of_getElem? (i := 35) rfl) rfl
theorem wSe_X6_X6_begins : Cond.selects RX6 yX6_begins yX6_begins ∈ GW := tmP (List.mem_of_getElem? (i := 36) rfl) rfl
theorem wSe_X6_X6_comes : Cond.selects RX6 yX6_comes yX6_comes ∈ GW := tmP (List.mem_of_getElem? (i := 37) rfl) rfl
theorem wSe_X6_X6_canCome : Cond.selects RX6 yX6_canCome yX6_canCome ∈ GW := tmP (List.mem_of_getElem? (i := 38) rfl) rfl
theorem wSe_X6_X6_isInRow : Cond.selects RX6 yX6_isInRow yX6_isInRow ∈ GW := tmP (List.mem_of_getElem? (i := 39) rfl) rfl
theorem wSe_X6_X6_findsRing : Cond.selects RX6 yX6_findsRing yX6_findsRing ∈ GW := tmP (List.mem_of_getElem? (i := 40) rfl) rfl
theorem wSe_X6_X6_roomOf : Cond.selects RX6 yX6_roomOf yX6_roomOf ∈ GW := tmP (List.mem_of_getElem? (i := 41) rfl) rfl
theorem wSe_X6_X6_discharges : Cond.selects RX6 yX6_discharges yX6_discharges ∈ GW := tmP (List.mem_of_getElem? (i := 42) rfl) rfl
theorem wSe_X6_X6_savingBy : Cond.selects RX6 yX6_savingBy yX6_savingBy ∈ GW := tmP (List.mem_of_getElem? (i := 43) rfl) rfl
theorem wSe_X6_X6_follower : Cond.selects RX6 yX6_follower yX6_follower ∈ GW := tmP (List.mem_of_getElem? (i := 44) rfl) rfl
theorem wSe_X6_X6_costBy : Cond.selects RX6 yX6_costBy yX6_costBy ∈ GW := tmP (List.mem_of_getElem? (i := 45) rfl) rfl
theorem wSe_X6_X6_findsBest : Cond.selects RX6 yX6_findsBest yX6_findsBest ∈ GW := tmP (List.mem_of_getElem? (i := 46) rfl) rfl
theorem wSe_X6_X6_dischargesBest : Cond.selects RX6 yX6_dischargesBest yX6_dischargesBest ∈ GW := tmP (List.mem_of_getElem? (i := 47) rfl) rfl
theorem wSe_X6_X6_dischargesAll : Cond.selects RX6 yX6_dischargesAll yX6_dischargesAll ∈ GW := tmP (List.mem_of_getElem? (i := 48) rfl) rfl
theorem wSe_X6_X6_debtOf : Cond.selects RX6 yX6_debtOf yX6_debtOf ∈ GW := tmP (List.mem_of_getElem? (i := 49) rfl) rfl
theorem wSe_X6_X6_netOf : Cond.selects RX6 yX6_netOf yX6_netOf ∈ GW := tmP (List.mem_of_getElem? (i := 50) rfl) rfl
theorem wSe_X6_X6_one : Cond.selects RX6 yX6_one yX6_one ∈ GW := tmP (List.mem_of_getElem? (i := 51) rfl) rfl
theorem wSe_X6_X6_leastOf : Cond.selects RX6 yX6_leastOf yX6_leastOf ∈ GW := tmP (List.mem_of_getElem? (i := 52) rfl) rfl
theorem wSe_X6_X6_ways : Cond.selects RX6 yX6_ways yX6_ways ∈ GW := tmP (List.mem_of_getElem? (i := 53) rfl) rfl
theorem wSe_X6_X6_nears : Cond.selects RX6 yX6_nears yX6_nears ∈ GW := tmP (List.mem_of_getElem? (i := 54) rfl) rfl
theorem wSe_X6_X6_nearest : Cond.selects RX6 yX6_nearest yX6_nearest ∈ GW := tmP (List.mem_of_getElem? (i := 55) rfl) rfl
theorem wSe_X6_X6_staysMore : Cond.selects RX6 yX6_staysMore yX6_staysMore ∈ GW := tmP (List.mem_of_getElem? (i := 56) rfl) rfl
theorem wSe_X6_X6_ahead : Cond.selects RX6 yX6_ahead yX6_ahead ∈ GW := tmP (List.mem_of_getElem? (i := 57) rfl) rfl
theorem wSe_X6_X6_readsOrder : Cond.selects RX6 yX6_readsOrder yX6_readsOrder ∈ GW := tmP (List.mem_of_getElem? (i := 58) rfl) rfl
theorem wSe_X6_X6_look : Cond.selects RX6 yX6_look yX6_look ∈ GW := tmP (List.mem_of_getElem? (i := 59) rfl) rfl
theorem wSe_X6_X6_digit : Cond.selects RX6 yX6_digit yX6_digit ∈ GW := tmP (List.mem_of_getElem? (i := 60) rfl) rfl
theorem wSe_X6_X6_fails : Cond.selects RX6 yX6_fails yX6_fails ∈ GW := tmP (List.mem_of_getElem? (i := 61) rfl) rfl
theorem wSe_X6_X6_sign : Cond.selects RX6 yX6_sign yX6_sign ∈ GW := tmP (List.mem_of_getElem? (i := 62) rfl) rfl
theorem wSe_X6_X6_figures : Cond.selects RX6 yX6_figures yX6_figures ∈ GW := tmP (List.mem_of_getElem? (i := 63) rfl) rfl
theorem wSe_X6_X6_can : Cond.selects RX6 yX6_can yX6_can ∈ GW := tmP (List.mem_of_getElem? (i := 64) rfl) rfl
theorem wSe_X6_X6_does : Cond.selects RX6 yX6_does yX6_does ∈ GW := tmP (List.mem_of_getElem? (i := 65) rfl) rfl
theorem wU_X0 : ∀ w ∈ u_ws RX0 TX0 13, w ∈ GW := (List.forall_mem_cons.mpr ⟨wY_X0_parties, (List.forall_mem_cons.mpr ⟨wY_X0_count, (List.forall_mem_cons.mpr ⟨wY_X0_payments, (List.forall_mem_cons.mpr ⟨wY_X0_releases, (List.forall_mem_cons.mpr ⟨wY_X0_discharges, (List.forall_mem_cons.mpr ⟨wY_X0_from, (List.forall_mem_cons.mpr ⟨wY_X0_to, (List.forall_mem_cons.mpr ⟨wY_X0_amount, (List.forall_mem_cons.mpr ⟨wY_X0_rate, (List.forall_mem_cons.mpr ⟨wY_X0_amountAtFirst, (List.forall_mem_cons.mpr ⟨wY_X0_paid, (List.forall_mem_cons.mpr ⟨wY_X0_released, (List.forall_mem_cons.mpr ⟨wY_X0_disputed, (fun _ h => absurd h List.not_mem_nil)⟩)⟩)⟩)⟩)⟩)⟩)⟩)⟩)⟩)⟩)⟩)⟩)⟩)
theorem wU_X1 : ∀ w ∈ u_ws RX1 TX1 3, w ∈ GW := (List.forall_mem_cons.mpr ⟨wY_X1_sum, (List.forall_mem_cons.mpr ⟨wY_X1_firstOf, (List.forall_mem_cons.mpr ⟨wY_X1_nextOf, (fun _ h => absurd h List.not_mem_nil)⟩)⟩)⟩)
theorem wU_X2 : ∀ w ∈ u_ws RX2 TX2 10, w ∈ GW := (List.forall_mem_cons.mpr ⟨wY_X2_bytes, (List.forall_mem_cons.mpr ⟨wY_X2_length, (List.forall_mem_cons.mpr ⟨wY_X2_at, (List.forall_mem_cons.mpr ⟨wY_X2_errorAt, (List.forall_mem_cons.mpr ⟨wY_X2_sign, (List.forall_mem_cons.mpr ⟨wY_X2_from, (List.forall_mem_cons.mpr ⟨wY_X2_to, (List.forall_mem_cons.mpr ⟨wY_X2_amount, (List.forall_mem_cons.mpr ⟨wY_X2_rate, (List.forall_mem_cons.mpr ⟨wY_X2_number, (fun _ h => absurd h List.not_mem_nil)⟩)⟩)⟩)⟩)⟩)⟩)⟩)⟩)⟩)⟩)
theorem wU_X3 : ∀ w ∈ u_ws RX3 TX3 4, w ∈ GW := (List.forall_mem_cons.mpr ⟨wY_X3_stays, (List.forall_mem_cons.mpr ⟨wY_X3_excess, (List.forall_mem_cons.mpr ⟨wY_X3_distance, (List.forall_mem_cons.mpr ⟨wY_X3_reachedBy, (fun _ h => absurd h List.not_mem_nil)⟩)⟩)⟩)⟩)
theorem wU_X4 : ∀ w ∈ u_ws RX4 TX4 4, w ∈ GW := (List.forall_mem_cons.mpr ⟨wY_X4_debts, (List.forall_mem_cons.mpr ⟨wY_X4_rows, (List.forall_mem_cons.mpr ⟨wY_X4_through, (List.forall_mem_cons.mpr ⟨wY_X4_size, (fun _ h => absurd h List.not_mem_nil)⟩)⟩)⟩)⟩)
theorem wU_X5 : ∀ w ∈ u_ws RX5 TX5 7, w ∈ GW := (List.forall_mem_cons.mpr ⟨wY_X5_book, (List.forall_mem_cons.mpr ⟨wY_X5_trial, (List.forall_mem_cons.mpr ⟨wY_X5_rings, (List.forall_mem_cons.mpr ⟨wY_X5_remainder, (List.forall_mem_cons.mpr ⟨wY_X5_orders, (List.forall_mem_cons.mpr ⟨wY_X5_saved, (List.forall_mem_cons.mpr ⟨wY_X5_savedCount, (fun _ h => absurd h List.not_mem_nil)⟩)⟩)⟩)⟩)⟩)⟩)⟩)
theorem wU_X6 : ∀ w ∈ u_ws RX6 TX6 30, w ∈ GW := (List.forall_mem_cons.mpr ⟨wY_X6_now, (List.forall_mem_cons.mpr ⟨wY_X6_tried, (List.forall_mem_cons.mpr ⟨wY_X6_saved, (List.forall_mem_cons.mpr ⟨wY_X6_states, (List.forall_mem_cons.mpr ⟨wY_X6_text, (List.forall_mem_cons.mpr ⟨wY_X6_letters, (List.forall_mem_cons.mpr ⟨wY_X6_thrown, (List.forall_mem_cons.mpr ⟨wY_X6_debts, (List.forall_mem_cons.mpr ⟨wY_X6_byRate, (List.forall_mem_cons.mpr ⟨wY_X6_parties, (List.forall_mem_cons.mpr ⟨wY_X6_row, (List.forall_mem_cons.mpr ⟨wY_X6_next, (List.forall_mem_cons.mpr ⟨wY_X6_length, (List.forall_mem_cons.mpr ⟨wY_X6_bestNumber, (List.forall_mem_cons.mpr ⟨wY_X6_bestSaving, (List.forall_mem_cons.mpr ⟨wY_X6_bestRow, (List.forall_mem_cons.mpr ⟨wY_X6_bestLength, (List.forall_mem_cons.mpr ⟨wY_X6_stays, (List.forall_mem_cons.mpr ⟨wY_X6_lacks, (List.forall_mem_cons.mpr ⟨wY_X6_far, (List.forall_mem_cons.mpr ⟨wY_X6_by, (List.forall_mem_cons.mpr ⟨wY_X6_at, (List.forall_mem_cons.mpr ⟨wY_X6_wrong, (List.forall_mem_cons.mpr ⟨wY_X6_number, (List.forall_mem_cons.mpr ⟨wY_X6_orders, (List.forall_mem_cons.mpr ⟨wY_X6_whats, (List.forall_mem_cons.mpr ⟨wY_X6_firsts, (List.forall_mem_cons.mpr ⟨wY_X6_seconds, (List.forall_mem_cons.mpr ⟨wY_X6_amounts, (List.forall_mem_cons.mpr ⟨wY_X6_rates, (fun _ h => absurd h List.not_mem_nil)⟩)⟩)⟩)⟩)⟩)⟩)⟩)⟩)⟩)⟩)⟩)⟩)⟩)⟩)⟩)⟩)⟩)⟩)⟩)⟩)⟩)⟩)⟩)⟩)⟩)⟩)⟩)⟩)⟩)⟩)
