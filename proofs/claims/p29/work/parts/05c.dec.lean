/-! decode rows -/
theorem dJ9_max_7cf53_0 : decode cJ9_max_7cf53 0 = .ok (.iload_n 0, 1) := by decide +kernel
theorem dJ9_max_7cf53_1 : decode cJ9_max_7cf53 1 = .ok (.iload_n 1, 1) := by decide +kernel
theorem dJ9_max_7cf53_2 : decode cJ9_max_7cf53 2 = .ok (.if_icmp .lt 7, 3) := by decide +kernel
theorem dJ9_max_7cf53_5 : decode cJ9_max_7cf53 5 = .ok (.iload_n 0, 1) := by decide +kernel
theorem dJ9_max_7cf53_6 : decode cJ9_max_7cf53 6 = .ok (.goto 4, 3) := by decide +kernel
theorem dJ9_max_7cf53_9 : decode cJ9_max_7cf53 9 = .ok (.iload_n 1, 1) := by decide +kernel
theorem dJ9_max_7cf53_10 : decode cJ9_max_7cf53 10 = .ok (.ireturn, 1) := by decide +kernel
theorem dJ9_min_7cf53_0 : decode cJ9_min_7cf53 0 = .ok (.iload_n 0, 1) := by decide +kernel
theorem dJ9_min_7cf53_1 : decode cJ9_min_7cf53 1 = .ok (.iload_n 1, 1) := by decide +kernel
theorem dJ9_min_7cf53_2 : decode cJ9_min_7cf53 2 = .ok (.if_icmp .gt 7, 3) := by decide +kernel
theorem dJ9_min_7cf53_5 : decode cJ9_min_7cf53 5 = .ok (.iload_n 0, 1) := by decide +kernel
theorem dJ9_min_7cf53_6 : decode cJ9_min_7cf53 6 = .ok (.goto 4, 3) := by decide +kernel
theorem dJ9_min_7cf53_9 : decode cJ9_min_7cf53 9 = .ok (.iload_n 1, 1) := by decide +kernel
theorem dJ9_min_7cf53_10 : decode cJ9_min_7cf53 10 = .ok (.ireturn, 1) := by decide +kernel
theorem dL_cell_0 : decode cL_cell 0 = .ok (.iload_n 1, 1) := by decide +kernel
theorem dL_cell_1 : decode cL_cell 1 = .ok (.aload_n 0, 1) := by decide +kernel
theorem dL_cell_2 : decode cL_cell 2 = .ok (.arraylength, 1) := by decide +kernel
theorem dL_cell_3 : decode cL_cell 3 = .ok (.if_icmp .ge 9, 3) := by decide +kernel
theorem dL_cell_6 : decode cL_cell 6 = .ok (.aload_n 0, 1) := by decide +kernel
theorem dL_cell_7 : decode cL_cell 7 = .ok (.iload_n 1, 1) := by decide +kernel
theorem dL_cell_8 : decode cL_cell 8 = .ok (.iaload, 1) := by decide +kernel
theorem dL_cell_9 : decode cL_cell 9 = .ok (.goto 11, 3) := by decide +kernel
theorem dL_cell_12 : decode cL_cell 12 = .ok (.sipush 16807, 3) := by decide +kernel
theorem dL_cell_15 : decode cL_cell 15 = .ok (.iload_n 1, 1) := by decide +kernel
theorem dL_cell_16 : decode cL_cell 16 = .ok (.bipush 13, 2) := by decide +kernel
theorem dL_cell_18 : decode cL_cell 18 = .ok (.iadd, 1) := by decide +kernel
theorem dL_cell_19 : decode cL_cell 19 = .ok (.imul, 1) := by decide +kernel
theorem dL_cell_20 : decode cL_cell 20 = .ok (.ldc 7, 2) := by decide +kernel
theorem dL_cell_22 : decode cL_cell 22 = .ok (.iand, 1) := by decide +kernel
theorem dL_cell_23 : decode cL_cell 23 = .ok (.ireturn, 1) := by decide +kernel
theorem dL_begins_0 : decode cL_begins 0 = .ok (.aload_n 0, 1) := by decide +kernel
theorem dL_begins_1 : decode cL_begins 1 = .ok (.iload_n 1, 1) := by decide +kernel
theorem dL_begins_2 : decode cL_begins 2 = .ok (.invokevirtual 8, 3) := by decide +kernel
theorem dL_begins_5 : decode cL_begins 5 = .ok (.ireturn, 1) := by decide +kernel
theorem dL_begins_6 : decode cL_begins 6 = .ok (.astore_n 2, 1) := by decide +kernel
theorem dL_begins_7 : decode cL_begins 7 = .ok (.ldc 16, 2) := by decide +kernel
theorem dL_begins_9 : decode cL_begins 9 = .ok (.ireturn, 1) := by decide +kernel
theorem dL_promises_0 : decode cL_promises 0 = .ok (.aload_n 0, 1) := by decide +kernel
theorem dL_promises_1 : decode cL_promises 1 = .ok (.iload_n 1, 1) := by decide +kernel
theorem dL_promises_2 : decode cL_promises 2 = .ok (.iload_n 2, 1) := by decide +kernel
theorem dL_promises_3 : decode cL_promises 3 = .ok (.iload_n 3, 1) := by decide +kernel
theorem dL_promises_4 : decode cL_promises 4 = .ok (.iload 4, 2) := by decide +kernel
theorem dL_promises_6 : decode cL_promises 6 = .ok (.invokevirtual 17, 3) := by decide +kernel
theorem dL_promises_9 : decode cL_promises 9 = .ok (.ireturn, 1) := by decide +kernel
theorem dL_promises_10 : decode cL_promises 10 = .ok (.astore 5, 2) := by decide +kernel
theorem dL_promises_12 : decode cL_promises 12 = .ok (.ldc 16, 2) := by decide +kernel
theorem dL_promises_14 : decode cL_promises 14 = .ok (.ireturn, 1) := by decide +kernel
theorem dL_promises_15 : decode cL_promises 15 = .ok (.astore 5, 2) := by decide +kernel
theorem dL_promises_17 : decode cL_promises 17 = .ok (.ldc 23, 2) := by decide +kernel
theorem dL_promises_19 : decode cL_promises 19 = .ok (.ireturn, 1) := by decide +kernel
theorem dL_promises_20 : decode cL_promises 20 = .ok (.astore 5, 2) := by decide +kernel
theorem dL_promises_22 : decode cL_promises 22 = .ok (.ldc 26, 2) := by decide +kernel
theorem dL_promises_24 : decode cL_promises 24 = .ok (.ireturn, 1) := by decide +kernel
theorem dL_pays_0 : decode cL_pays 0 = .ok (.aload_n 0, 1) := by decide +kernel
theorem dL_pays_1 : decode cL_pays 1 = .ok (.iload_n 1, 1) := by decide +kernel
theorem dL_pays_2 : decode cL_pays 2 = .ok (.iload_n 2, 1) := by decide +kernel
theorem dL_pays_3 : decode cL_pays 3 = .ok (.invokevirtual 27, 3) := by decide +kernel
theorem dL_pays_6 : decode cL_pays 6 = .ok (.ireturn, 1) := by decide +kernel
theorem dL_pays_7 : decode cL_pays 7 = .ok (.astore_n 3, 1) := by decide +kernel
theorem dL_pays_8 : decode cL_pays 8 = .ok (.ldc 16, 2) := by decide +kernel
theorem dL_pays_10 : decode cL_pays 10 = .ok (.ireturn, 1) := by decide +kernel
theorem dL_pays_11 : decode cL_pays 11 = .ok (.astore_n 3, 1) := by decide +kernel
theorem dL_pays_12 : decode cL_pays 12 = .ok (.ldc 23, 2) := by decide +kernel
theorem dL_pays_14 : decode cL_pays 14 = .ok (.ireturn, 1) := by decide +kernel
theorem dL_pays_15 : decode cL_pays 15 = .ok (.astore_n 3, 1) := by decide +kernel
theorem dL_pays_16 : decode cL_pays 16 = .ok (.ldc 26, 2) := by decide +kernel
theorem dL_pays_18 : decode cL_pays 18 = .ok (.ireturn, 1) := by decide +kernel
theorem dL_disputes_0 : decode cL_disputes 0 = .ok (.aload_n 0, 1) := by decide +kernel
theorem dL_disputes_1 : decode cL_disputes 1 = .ok (.iload_n 1, 1) := by decide +kernel
theorem dL_disputes_2 : decode cL_disputes 2 = .ok (.invokevirtual 31, 3) := by decide +kernel
theorem dL_disputes_5 : decode cL_disputes 5 = .ok (.ireturn, 1) := by decide +kernel
theorem dL_disputes_6 : decode cL_disputes 6 = .ok (.astore_n 2, 1) := by decide +kernel
theorem dL_disputes_7 : decode cL_disputes 7 = .ok (.ldc 16, 2) := by decide +kernel
theorem dL_disputes_9 : decode cL_disputes 9 = .ok (.ireturn, 1) := by decide +kernel
theorem dL_disputes_10 : decode cL_disputes 10 = .ok (.astore_n 2, 1) := by decide +kernel
theorem dL_disputes_11 : decode cL_disputes 11 = .ok (.ldc 23, 2) := by decide +kernel
theorem dL_disputes_13 : decode cL_disputes 13 = .ok (.ireturn, 1) := by decide +kernel
theorem dL_settles_0 : decode cL_settles 0 = .ok (.aload_n 0, 1) := by decide +kernel
theorem dL_settles_1 : decode cL_settles 1 = .ok (.iload_n 1, 1) := by decide +kernel
theorem dL_settles_2 : decode cL_settles 2 = .ok (.invokevirtual 34, 3) := by decide +kernel
theorem dL_settles_5 : decode cL_settles 5 = .ok (.ireturn, 1) := by decide +kernel
theorem dL_settles_6 : decode cL_settles 6 = .ok (.astore_n 2, 1) := by decide +kernel
theorem dL_settles_7 : decode cL_settles 7 = .ok (.ldc 16, 2) := by decide +kernel
theorem dL_settles_9 : decode cL_settles 9 = .ok (.ireturn, 1) := by decide +kernel
theorem dL_settles_10 : decode cL_settles 10 = .ok (.astore_n 2, 1) := by decide +kernel
theorem dL_settles_11 : decode cL_settles 11 = .ok (.ldc 23, 2) := by decide +kernel
theorem dL_settles_13 : decode cL_settles 13 = .ok (.ireturn, 1) := by decide +kernel
theorem dL_discharges_0 : decode cL_discharges 0 = .ok (.aload_n 0, 1) := by decide +kernel
theorem dL_discharges_1 : decode cL_discharges 1 = .ok (.iload_n 1, 1) := by decide +kernel
theorem dL_discharges_2 : decode cL_discharges 2 = .ok (.iload_n 2, 1) := by decide +kernel
theorem dL_discharges_3 : decode cL_discharges 3 = .ok (.invokevirtual 37, 3) := by decide +kernel
theorem dL_discharges_6 : decode cL_discharges 6 = .ok (.ireturn, 1) := by decide +kernel
theorem dL_discharges_7 : decode cL_discharges 7 = .ok (.astore_n 3, 1) := by decide +kernel
theorem dL_discharges_8 : decode cL_discharges 8 = .ok (.ldc 16, 2) := by decide +kernel
theorem dL_discharges_10 : decode cL_discharges 10 = .ok (.ireturn, 1) := by decide +kernel
theorem dL_discharges_11 : decode cL_discharges 11 = .ok (.astore_n 3, 1) := by decide +kernel
theorem dL_discharges_12 : decode cL_discharges 12 = .ok (.ldc 23, 2) := by decide +kernel
theorem dL_discharges_14 : decode cL_discharges 14 = .ok (.ireturn, 1) := by decide +kernel
theorem dL_discharges_15 : decode cL_discharges 15 = .ok (.astore_n 3, 1) := by decide +kernel
theorem dL_discharges_16 : decode cL_discharges 16 = .ok (.ldc 26, 2) := by decide +kernel
theorem dL_discharges_18 : decode cL_discharges 18 = .ok (.ireturn, 1) := by decide +kernel
theorem dL_bests_0 : decode cL_bests 0 = .ok (.aload_n 0, 1) := by decide +kernel
theorem dL_bests_1 : decode cL_bests 1 = .ok (.invokevirtual 40, 3) := by decide +kernel
theorem dL_bests_4 : decode cL_bests 4 = .ok (.ireturn, 1) := by decide +kernel
theorem dL_bests_5 : decode cL_bests 5 = .ok (.astore_n 1, 1) := by decide +kernel
theorem dL_bests_6 : decode cL_bests 6 = .ok (.ldc 16, 2) := by decide +kernel
theorem dL_bests_8 : decode cL_bests 8 = .ok (.ireturn, 1) := by decide +kernel
theorem dL_promiseOf_0 : decode cL_promiseOf 0 = .ok (.aload_n 0, 1) := by decide +kernel
theorem dL_promiseOf_1 : decode cL_promiseOf 1 = .ok (.iload_n 1, 1) := by decide +kernel
theorem dL_promiseOf_2 : decode cL_promiseOf 2 = .ok (.iload_n 2, 1) := by decide +kernel
theorem dL_promiseOf_3 : decode cL_promiseOf 3 = .ok (.invokevirtual 44, 3) := by decide +kernel
theorem dL_promiseOf_6 : decode cL_promiseOf 6 = .ok (.ireturn, 1) := by decide +kernel
theorem dL_promiseOf_7 : decode cL_promiseOf 7 = .ok (.astore_n 3, 1) := by decide +kernel
theorem dL_promiseOf_8 : decode cL_promiseOf 8 = .ok (.ldc 16, 2) := by decide +kernel
theorem dL_promiseOf_10 : decode cL_promiseOf 10 = .ok (.ireturn, 1) := by decide +kernel
theorem dL_promiseOf_11 : decode cL_promiseOf 11 = .ok (.astore_n 3, 1) := by decide +kernel
theorem dL_promiseOf_12 : decode cL_promiseOf 12 = .ok (.ldc 23, 2) := by decide +kernel
theorem dL_promiseOf_14 : decode cL_promiseOf 14 = .ok (.ireturn, 1) := by decide +kernel
theorem dL_debt_0 : decode cL_debt 0 = .ok (.aload_n 0, 1) := by decide +kernel
theorem dL_debt_1 : decode cL_debt 1 = .ok (.iload_n 1, 1) := by decide +kernel
theorem dL_debt_2 : decode cL_debt 2 = .ok (.iload_n 2, 1) := by decide +kernel
theorem dL_debt_3 : decode cL_debt 3 = .ok (.invokevirtual 47, 3) := by decide +kernel
theorem dL_debt_6 : decode cL_debt 6 = .ok (.ireturn, 1) := by decide +kernel
theorem dL_debt_7 : decode cL_debt 7 = .ok (.astore_n 3, 1) := by decide +kernel
theorem dL_debt_8 : decode cL_debt 8 = .ok (.ldc 16, 2) := by decide +kernel
theorem dL_debt_10 : decode cL_debt 10 = .ok (.ireturn, 1) := by decide +kernel
theorem dL_net_0 : decode cL_net 0 = .ok (.aload_n 0, 1) := by decide +kernel
theorem dL_net_1 : decode cL_net 1 = .ok (.iload_n 1, 1) := by decide +kernel
theorem dL_net_2 : decode cL_net 2 = .ok (.invokevirtual 50, 3) := by decide +kernel
theorem dL_net_5 : decode cL_net 5 = .ok (.ireturn, 1) := by decide +kernel
theorem dL_net_6 : decode cL_net 6 = .ok (.astore_n 2, 1) := by decide +kernel
theorem dL_net_7 : decode cL_net 7 = .ok (.ldc 16, 2) := by decide +kernel
theorem dL_net_9 : decode cL_net 9 = .ok (.ireturn, 1) := by decide +kernel
theorem dL_ring_0 : decode cL_ring 0 = .ok (.aload_n 0, 1) := by decide +kernel
theorem dL_ring_1 : decode cL_ring 1 = .ok (.iload_n 1, 1) := by decide +kernel
theorem dL_ring_2 : decode cL_ring 2 = .ok (.iload_n 2, 1) := by decide +kernel
theorem dL_ring_3 : decode cL_ring 3 = .ok (.invokevirtual 53, 3) := by decide +kernel
theorem dL_ring_6 : decode cL_ring 6 = .ok (.ireturn, 1) := by decide +kernel
theorem dL_ring_7 : decode cL_ring 7 = .ok (.astore_n 3, 1) := by decide +kernel
theorem dL_ring_8 : decode cL_ring 8 = .ok (.ldc 16, 2) := by decide +kernel
theorem dL_ring_10 : decode cL_ring 10 = .ok (.ireturn, 1) := by decide +kernel
theorem dL_ring_11 : decode cL_ring 11 = .ok (.astore_n 3, 1) := by decide +kernel
theorem dL_ring_12 : decode cL_ring 12 = .ok (.ldc 23, 2) := by decide +kernel
theorem dL_ring_14 : decode cL_ring 14 = .ok (.ireturn, 1) := by decide +kernel
theorem dL_room_0 : decode cL_room 0 = .ok (.aload_n 0, 1) := by decide +kernel
theorem dL_room_1 : decode cL_room 1 = .ok (.iload_n 1, 1) := by decide +kernel
theorem dL_room_2 : decode cL_room 2 = .ok (.invokevirtual 56, 3) := by decide +kernel
theorem dL_room_5 : decode cL_room 5 = .ok (.ireturn, 1) := by decide +kernel
theorem dL_room_6 : decode cL_room 6 = .ok (.astore_n 2, 1) := by decide +kernel
theorem dL_room_7 : decode cL_room 7 = .ok (.ldc 16, 2) := by decide +kernel
theorem dL_room_9 : decode cL_room 9 = .ok (.ireturn, 1) := by decide +kernel
theorem dL_value_0 : decode cL_value 0 = .ok (.aload_n 0, 1) := by decide +kernel
theorem dL_value_1 : decode cL_value 1 = .ok (.iload_n 1, 1) := by decide +kernel
theorem dL_value_2 : decode cL_value 2 = .ok (.invokevirtual 59, 3) := by decide +kernel
theorem dL_value_5 : decode cL_value 5 = .ok (.ireturn, 1) := by decide +kernel
theorem dL_value_6 : decode cL_value 6 = .ok (.astore_n 2, 1) := by decide +kernel
theorem dL_value_7 : decode cL_value 7 = .ok (.ldc 16, 2) := by decide +kernel
theorem dL_value_9 : decode cL_value 9 = .ok (.ireturn, 1) := by decide +kernel
theorem dL_saving_0 : decode cL_saving 0 = .ok (.aload_n 0, 1) := by decide +kernel
theorem dL_saving_1 : decode cL_saving 1 = .ok (.iload_n 1, 1) := by decide +kernel
theorem dL_saving_2 : decode cL_saving 2 = .ok (.invokevirtual 62, 3) := by decide +kernel
theorem dL_saving_5 : decode cL_saving 5 = .ok (.ireturn, 1) := by decide +kernel
theorem dL_saving_6 : decode cL_saving 6 = .ok (.astore_n 2, 1) := by decide +kernel
theorem dL_saving_7 : decode cL_saving 7 = .ok (.ldc 16, 2) := by decide +kernel
theorem dL_saving_9 : decode cL_saving 9 = .ok (.ireturn, 1) := by decide +kernel
theorem dL_undoes_0 : decode cL_undoes 0 = .ok (.aload_n 0, 1) := by decide +kernel
theorem dL_undoes_1 : decode cL_undoes 1 = .ok (.invokevirtual 65, 3) := by decide +kernel
theorem dL_undoes_4 : decode cL_undoes 4 = .ok (.ireturn, 1) := by decide +kernel
theorem dL_undoes_5 : decode cL_undoes 5 = .ok (.astore_n 1, 1) := by decide +kernel
theorem dL_undoes_6 : decode cL_undoes 6 = .ok (.ldc 16, 2) := by decide +kernel
theorem dL_undoes_8 : decode cL_undoes 8 = .ok (.ireturn, 1) := by decide +kernel
theorem dL_promisesHold_0 : decode cL_promisesHold 0 = .ok (.iconst 0, 1) := by decide +kernel
theorem dL_promisesHold_1 : decode cL_promisesHold 1 = .ok (.istore_n 1, 1) := by decide +kernel
theorem dL_promisesHold_2 : decode cL_promisesHold 2 = .ok (.iconst 0, 1) := by decide +kernel
theorem dL_promisesHold_3 : decode cL_promisesHold 3 = .ok (.istore_n 2, 1) := by decide +kernel
theorem dL_promisesHold_4 : decode cL_promisesHold 4 = .ok (.iconst 0, 1) := by decide +kernel
theorem dL_promisesHold_5 : decode cL_promisesHold 5 = .ok (.istore_n 3, 1) := by decide +kernel
theorem dL_promisesHold_6 : decode cL_promisesHold 6 = .ok (.iconst 0, 1) := by decide +kernel
theorem dL_promisesHold_7 : decode cL_promisesHold 7 = .ok (.istore 4, 2) := by decide +kernel
theorem dL_promisesHold_9 : decode cL_promisesHold 9 = .ok (.iconst 0, 1) := by decide +kernel
theorem dL_promisesHold_10 : decode cL_promisesHold 10 = .ok (.istore 5, 2) := by decide +kernel
theorem dL_promisesHold_12 : decode cL_promisesHold 12 = .ok (.iconst 0, 1) := by decide +kernel
theorem dL_promisesHold_13 : decode cL_promisesHold 13 = .ok (.istore 6, 2) := by decide +kernel
theorem dL_promisesHold_15 : decode cL_promisesHold 15 = .ok (.iconst 1, 1) := by decide +kernel
theorem dL_promisesHold_16 : decode cL_promisesHold 16 = .ok (.istore 7, 2) := by decide +kernel
theorem dL_promisesHold_18 : decode cL_promisesHold 18 = .ok (.iconst 0, 1) := by decide +kernel
theorem dL_promisesHold_19 : decode cL_promisesHold 19 = .ok (.istore 8, 2) := by decide +kernel
theorem dL_promisesHold_21 : decode cL_promisesHold 21 = .ok (.iload 8, 2) := by decide +kernel
theorem dL_promisesHold_23 : decode cL_promisesHold 23 = .ok (.aload_n 0, 1) := by decide +kernel
theorem dL_promisesHold_24 : decode cL_promisesHold 24 = .ok (.iconst 1, 1) := by decide +kernel
theorem dL_promisesHold_25 : decode cL_promisesHold 25 = .ok (.invokestatic 68, 3) := by decide +kernel
theorem dL_promisesHold_28 : decode cL_promisesHold 28 = .ok (.if_icmp .ge 156, 3) := by decide +kernel
theorem dL_promisesHold_31 : decode cL_promisesHold 31 = .ok (.iload 7, 2) := by decide +kernel
theorem dL_promisesHold_33 : decode cL_promisesHold 33 = .ok (.ifCond .eq 151, 3) := by decide +kernel
theorem dL_promisesHold_36 : decode cL_promisesHold 36 = .ok (.aload_n 0, 1) := by decide +kernel
theorem dL_promisesHold_37 : decode cL_promisesHold 37 = .ok (.iload 8, 2) := by decide +kernel
theorem dL_promisesHold_39 : decode cL_promisesHold 39 = .ok (.iconst 2, 1) := by decide +kernel
theorem dL_promisesHold_40 : decode cL_promisesHold 40 = .ok (.invokestatic 73, 3) := by decide +kernel
theorem dL_promisesHold_43 : decode cL_promisesHold 43 = .ok (.istore 9, 2) := by decide +kernel
theorem dL_promisesHold_45 : decode cL_promisesHold 45 = .ok (.iload_n 1, 1) := by decide +kernel
theorem dL_promisesHold_46 : decode cL_promisesHold 46 = .ok (.iload 9, 2) := by decide +kernel
theorem dL_promisesHold_48 : decode cL_promisesHold 48 = .ok (.ifCond .le 7, 3) := by decide +kernel
theorem dL_promisesHold_51 : decode cL_promisesHold 51 = .ok (.iconst 1, 1) := by decide +kernel
theorem dL_promisesHold_52 : decode cL_promisesHold 52 = .ok (.goto 4, 3) := by decide +kernel
theorem dL_promisesHold_55 : decode cL_promisesHold 55 = .ok (.iconst 0, 1) := by decide +kernel
theorem dL_promisesHold_56 : decode cL_promisesHold 56 = .ok (.iadd, 1) := by decide +kernel
theorem dL_promisesHold_57 : decode cL_promisesHold 57 = .ok (.istore_n 1, 1) := by decide +kernel
theorem dL_promisesHold_58 : decode cL_promisesHold 58 = .ok (.iload_n 2, 1) := by decide +kernel
theorem dL_promisesHold_59 : decode cL_promisesHold 59 = .ok (.aload_n 0, 1) := by decide +kernel
theorem dL_promisesHold_60 : decode cL_promisesHold 60 = .ok (.iload 8, 2) := by decide +kernel
theorem dL_promisesHold_62 : decode cL_promisesHold 62 = .ok (.iconst 4, 1) := by decide +kernel
theorem dL_promisesHold_63 : decode cL_promisesHold 63 = .ok (.invokestatic 73, 3) := by decide +kernel
theorem dL_promisesHold_66 : decode cL_promisesHold 66 = .ok (.iadd, 1) := by decide +kernel
theorem dL_promisesHold_67 : decode cL_promisesHold 67 = .ok (.istore_n 2, 1) := by decide +kernel
theorem dL_promisesHold_68 : decode cL_promisesHold 68 = .ok (.iload_n 3, 1) := by decide +kernel
theorem dL_promisesHold_69 : decode cL_promisesHold 69 = .ok (.iload 9, 2) := by decide +kernel
theorem dL_promisesHold_71 : decode cL_promisesHold 71 = .ok (.iadd, 1) := by decide +kernel
theorem dL_promisesHold_72 : decode cL_promisesHold 72 = .ok (.istore_n 3, 1) := by decide +kernel
theorem dL_promisesHold_73 : decode cL_promisesHold 73 = .ok (.iload 4, 2) := by decide +kernel
theorem dL_promisesHold_75 : decode cL_promisesHold 75 = .ok (.iload 9, 2) := by decide +kernel
theorem dL_promisesHold_77 : decode cL_promisesHold 77 = .ok (.aload_n 0, 1) := by decide +kernel
theorem dL_promisesHold_78 : decode cL_promisesHold 78 = .ok (.iload 8, 2) := by decide +kernel
theorem dL_promisesHold_80 : decode cL_promisesHold 80 = .ok (.iconst 3, 1) := by decide +kernel
theorem dL_promisesHold_81 : decode cL_promisesHold 81 = .ok (.invokestatic 73, 3) := by decide +kernel
theorem dL_promisesHold_84 : decode cL_promisesHold 84 = .ok (.imul, 1) := by decide +kernel
theorem dL_promisesHold_85 : decode cL_promisesHold 85 = .ok (.iadd, 1) := by decide +kernel
theorem dL_promisesHold_86 : decode cL_promisesHold 86 = .ok (.istore 4, 2) := by decide +kernel
theorem dL_promisesHold_88 : decode cL_promisesHold 88 = .ok (.iload 5, 2) := by decide +kernel
theorem dL_promisesHold_90 : decode cL_promisesHold 90 = .ok (.aload_n 0, 1) := by decide +kernel
theorem dL_promisesHold_91 : decode cL_promisesHold 91 = .ok (.iload 8, 2) := by decide +kernel
theorem dL_promisesHold_93 : decode cL_promisesHold 93 = .ok (.bipush 6, 2) := by decide +kernel
theorem dL_promisesHold_95 : decode cL_promisesHold 95 = .ok (.invokestatic 73, 3) := by decide +kernel
theorem dL_promisesHold_98 : decode cL_promisesHold 98 = .ok (.iadd, 1) := by decide +kernel
theorem dL_promisesHold_99 : decode cL_promisesHold 99 = .ok (.istore 5, 2) := by decide +kernel
theorem dL_promisesHold_101 : decode cL_promisesHold 101 = .ok (.iload 6, 2) := by decide +kernel
theorem dL_promisesHold_103 : decode cL_promisesHold 103 = .ok (.aload_n 0, 1) := by decide +kernel
theorem dL_promisesHold_104 : decode cL_promisesHold 104 = .ok (.iload 8, 2) := by decide +kernel
theorem dL_promisesHold_106 : decode cL_promisesHold 106 = .ok (.bipush 7, 2) := by decide +kernel
theorem dL_promisesHold_108 : decode cL_promisesHold 108 = .ok (.invokestatic 73, 3) := by decide +kernel
theorem dL_promisesHold_111 : decode cL_promisesHold 111 = .ok (.iadd, 1) := by decide +kernel
theorem dL_promisesHold_112 : decode cL_promisesHold 112 = .ok (.istore 6, 2) := by decide +kernel
theorem dL_promisesHold_114 : decode cL_promisesHold 114 = .ok (.iload 9, 2) := by decide +kernel
theorem dL_promisesHold_116 : decode cL_promisesHold 116 = .ok (.ifCond .lt 59, 3) := by decide +kernel
theorem dL_promisesHold_119 : decode cL_promisesHold 119 = .ok (.aload_n 0, 1) := by decide +kernel
theorem dL_promisesHold_120 : decode cL_promisesHold 120 = .ok (.iload 8, 2) := by decide +kernel
theorem dL_promisesHold_122 : decode cL_promisesHold 122 = .ok (.bipush 6, 2) := by decide +kernel
theorem dL_promisesHold_124 : decode cL_promisesHold 124 = .ok (.invokestatic 73, 3) := by decide +kernel
theorem dL_promisesHold_127 : decode cL_promisesHold 127 = .ok (.ifCond .lt 48, 3) := by decide +kernel
theorem dL_promisesHold_130 : decode cL_promisesHold 130 = .ok (.aload_n 0, 1) := by decide +kernel
theorem dL_promisesHold_131 : decode cL_promisesHold 131 = .ok (.iload 8, 2) := by decide +kernel
theorem dL_promisesHold_133 : decode cL_promisesHold 133 = .ok (.bipush 7, 2) := by decide +kernel
theorem dL_promisesHold_135 : decode cL_promisesHold 135 = .ok (.invokestatic 73, 3) := by decide +kernel
theorem dL_promisesHold_138 : decode cL_promisesHold 138 = .ok (.ifCond .lt 37, 3) := by decide +kernel
theorem dL_promisesHold_141 : decode cL_promisesHold 141 = .ok (.aload_n 0, 1) := by decide +kernel
theorem dL_promisesHold_142 : decode cL_promisesHold 142 = .ok (.iload 8, 2) := by decide +kernel
theorem dL_promisesHold_144 : decode cL_promisesHold 144 = .ok (.iconst 5, 1) := by decide +kernel
theorem dL_promisesHold_145 : decode cL_promisesHold 145 = .ok (.invokestatic 73, 3) := by decide +kernel
theorem dL_promisesHold_148 : decode cL_promisesHold 148 = .ok (.iload 9, 2) := by decide +kernel
theorem dL_promisesHold_150 : decode cL_promisesHold 150 = .ok (.aload_n 0, 1) := by decide +kernel
theorem dL_promisesHold_151 : decode cL_promisesHold 151 = .ok (.iload 8, 2) := by decide +kernel
theorem dL_promisesHold_153 : decode cL_promisesHold 153 = .ok (.bipush 6, 2) := by decide +kernel
theorem dL_promisesHold_155 : decode cL_promisesHold 155 = .ok (.invokestatic 73, 3) := by decide +kernel
theorem dL_promisesHold_158 : decode cL_promisesHold 158 = .ok (.iadd, 1) := by decide +kernel
theorem dL_promisesHold_159 : decode cL_promisesHold 159 = .ok (.aload_n 0, 1) := by decide +kernel
theorem dL_promisesHold_160 : decode cL_promisesHold 160 = .ok (.iload 8, 2) := by decide +kernel
theorem dL_promisesHold_162 : decode cL_promisesHold 162 = .ok (.bipush 7, 2) := by decide +kernel
theorem dL_promisesHold_164 : decode cL_promisesHold 164 = .ok (.invokestatic 73, 3) := by decide +kernel
theorem dL_promisesHold_167 : decode cL_promisesHold 167 = .ok (.iadd, 1) := by decide +kernel
theorem dL_promisesHold_168 : decode cL_promisesHold 168 = .ok (.if_icmp .ne 7, 3) := by decide +kernel
theorem dL_promisesHold_171 : decode cL_promisesHold 171 = .ok (.iconst 1, 1) := by decide +kernel
theorem dL_promisesHold_172 : decode cL_promisesHold 172 = .ok (.goto 4, 3) := by decide +kernel
theorem dL_promisesHold_175 : decode cL_promisesHold 175 = .ok (.iconst 0, 1) := by decide +kernel
theorem dL_promisesHold_176 : decode cL_promisesHold 176 = .ok (.istore 7, 2) := by decide +kernel
theorem dL_promisesHold_178 : decode cL_promisesHold 178 = .ok (.iinc 8 1, 3) := by decide +kernel
theorem dL_promisesHold_181 : decode cL_promisesHold 181 = .ok (.goto (-160), 3) := by decide +kernel
theorem dL_promisesHold_184 : decode cL_promisesHold 184 = .ok (.iload 7, 2) := by decide +kernel
theorem dL_promisesHold_186 : decode cL_promisesHold 186 = .ok (.ifCond .eq 66, 3) := by decide +kernel
theorem dL_promisesHold_189 : decode cL_promisesHold 189 = .ok (.aload_n 0, 1) := by decide +kernel
theorem dL_promisesHold_190 : decode cL_promisesHold 190 = .ok (.iconst 2, 1) := by decide +kernel
theorem dL_promisesHold_191 : decode cL_promisesHold 191 = .ok (.invokestatic 68, 3) := by decide +kernel
theorem dL_promisesHold_194 : decode cL_promisesHold 194 = .ok (.iload_n 1, 1) := by decide +kernel
theorem dL_promisesHold_195 : decode cL_promisesHold 195 = .ok (.if_icmp .ne 57, 3) := by decide +kernel
theorem dL_promisesHold_198 : decode cL_promisesHold 198 = .ok (.aload_n 0, 1) := by decide +kernel
theorem dL_promisesHold_199 : decode cL_promisesHold 199 = .ok (.iconst 3, 1) := by decide +kernel
theorem dL_promisesHold_200 : decode cL_promisesHold 200 = .ok (.invokestatic 68, 3) := by decide +kernel
theorem dL_promisesHold_203 : decode cL_promisesHold 203 = .ok (.iload_n 2, 1) := by decide +kernel
theorem dL_promisesHold_204 : decode cL_promisesHold 204 = .ok (.if_icmp .ne 48, 3) := by decide +kernel
theorem dL_promisesHold_207 : decode cL_promisesHold 207 = .ok (.aload_n 0, 1) := by decide +kernel
theorem dL_promisesHold_208 : decode cL_promisesHold 208 = .ok (.iconst 4, 1) := by decide +kernel
theorem dL_promisesHold_209 : decode cL_promisesHold 209 = .ok (.invokestatic 68, 3) := by decide +kernel
theorem dL_promisesHold_212 : decode cL_promisesHold 212 = .ok (.iload_n 3, 1) := by decide +kernel
theorem dL_promisesHold_213 : decode cL_promisesHold 213 = .ok (.if_icmp .ne 39, 3) := by decide +kernel
theorem dL_promisesHold_216 : decode cL_promisesHold 216 = .ok (.aload_n 0, 1) := by decide +kernel
theorem dL_promisesHold_217 : decode cL_promisesHold 217 = .ok (.iconst 5, 1) := by decide +kernel
theorem dL_promisesHold_218 : decode cL_promisesHold 218 = .ok (.invokestatic 68, 3) := by decide +kernel
theorem dL_promisesHold_221 : decode cL_promisesHold 221 = .ok (.iload 4, 2) := by decide +kernel
theorem dL_promisesHold_223 : decode cL_promisesHold 223 = .ok (.if_icmp .ne 29, 3) := by decide +kernel
theorem dL_promisesHold_226 : decode cL_promisesHold 226 = .ok (.aload_n 0, 1) := by decide +kernel
theorem dL_promisesHold_227 : decode cL_promisesHold 227 = .ok (.bipush 7, 2) := by decide +kernel
theorem dL_promisesHold_229 : decode cL_promisesHold 229 = .ok (.invokestatic 68, 3) := by decide +kernel
theorem dL_promisesHold_232 : decode cL_promisesHold 232 = .ok (.iload 5, 2) := by decide +kernel
theorem dL_promisesHold_234 : decode cL_promisesHold 234 = .ok (.if_icmp .ne 18, 3) := by decide +kernel
theorem dL_promisesHold_237 : decode cL_promisesHold 237 = .ok (.aload_n 0, 1) := by decide +kernel
theorem dL_promisesHold_238 : decode cL_promisesHold 238 = .ok (.bipush 8, 2) := by decide +kernel
theorem dL_promisesHold_240 : decode cL_promisesHold 240 = .ok (.invokestatic 68, 3) := by decide +kernel
theorem dL_promisesHold_243 : decode cL_promisesHold 243 = .ok (.iload 6, 2) := by decide +kernel
theorem dL_promisesHold_245 : decode cL_promisesHold 245 = .ok (.if_icmp .ne 7, 3) := by decide +kernel
theorem dL_promisesHold_248 : decode cL_promisesHold 248 = .ok (.iconst 1, 1) := by decide +kernel
theorem dL_promisesHold_249 : decode cL_promisesHold 249 = .ok (.goto 4, 3) := by decide +kernel
theorem dL_promisesHold_252 : decode cL_promisesHold 252 = .ok (.iconst 0, 1) := by decide +kernel
theorem dL_promisesHold_253 : decode cL_promisesHold 253 = .ok (.ireturn, 1) := by decide +kernel
theorem dL_debtsHold_0 : decode cL_debtsHold 0 = .ok (.iconst 0, 1) := by decide +kernel
theorem dL_debtsHold_1 : decode cL_debtsHold 1 = .ok (.istore_n 1, 1) := by decide +kernel
theorem dL_debtsHold_2 : decode cL_debtsHold 2 = .ok (.iconst 0, 1) := by decide +kernel
theorem dL_debtsHold_3 : decode cL_debtsHold 3 = .ok (.istore_n 2, 1) := by decide +kernel
theorem dL_debtsHold_4 : decode cL_debtsHold 4 = .ok (.iconst 1, 1) := by decide +kernel
theorem dL_debtsHold_5 : decode cL_debtsHold 5 = .ok (.istore_n 3, 1) := by decide +kernel
theorem dL_debtsHold_6 : decode cL_debtsHold 6 = .ok (.iconst 0, 1) := by decide +kernel
theorem dL_debtsHold_7 : decode cL_debtsHold 7 = .ok (.istore 4, 2) := by decide +kernel
theorem dL_debtsHold_9 : decode cL_debtsHold 9 = .ok (.iload 4, 2) := by decide +kernel
theorem dL_debtsHold_11 : decode cL_debtsHold 11 = .ok (.aload_n 0, 1) := by decide +kernel
theorem dL_debtsHold_12 : decode cL_debtsHold 12 = .ok (.iconst 0, 1) := by decide +kernel
theorem dL_debtsHold_13 : decode cL_debtsHold 13 = .ok (.invokestatic 68, 3) := by decide +kernel
theorem dL_debtsHold_16 : decode cL_debtsHold 16 = .ok (.if_icmp .ge 243, 3) := by decide +kernel
theorem dL_debtsHold_19 : decode cL_debtsHold 19 = .ok (.iload_n 3, 1) := by decide +kernel
theorem dL_debtsHold_20 : decode cL_debtsHold 20 = .ok (.ifCond .eq 239, 3) := by decide +kernel
theorem dL_debtsHold_23 : decode cL_debtsHold 23 = .ok (.iconst 0, 1) := by decide +kernel
theorem dL_debtsHold_24 : decode cL_debtsHold 24 = .ok (.istore 5, 2) := by decide +kernel
theorem dL_debtsHold_26 : decode cL_debtsHold 26 = .ok (.iconst 0, 1) := by decide +kernel
theorem dL_debtsHold_27 : decode cL_debtsHold 27 = .ok (.istore 6, 2) := by decide +kernel
theorem dL_debtsHold_29 : decode cL_debtsHold 29 = .ok (.iload 6, 2) := by decide +kernel
theorem dL_debtsHold_31 : decode cL_debtsHold 31 = .ok (.aload_n 0, 1) := by decide +kernel
theorem dL_debtsHold_32 : decode cL_debtsHold 32 = .ok (.iconst 0, 1) := by decide +kernel
theorem dL_debtsHold_33 : decode cL_debtsHold 33 = .ok (.invokestatic 68, 3) := by decide +kernel
theorem dL_debtsHold_36 : decode cL_debtsHold 36 = .ok (.if_icmp .ge 177, 3) := by decide +kernel
theorem dL_debtsHold_39 : decode cL_debtsHold 39 = .ok (.iload_n 3, 1) := by decide +kernel
theorem dL_debtsHold_40 : decode cL_debtsHold 40 = .ok (.ifCond .eq 173, 3) := by decide +kernel
theorem dL_debtsHold_43 : decode cL_debtsHold 43 = .ok (.iconst 0, 1) := by decide +kernel
theorem dL_debtsHold_44 : decode cL_debtsHold 44 = .ok (.istore 7, 2) := by decide +kernel
theorem dL_debtsHold_46 : decode cL_debtsHold 46 = .ok (.iconst 0, 1) := by decide +kernel
theorem dL_debtsHold_47 : decode cL_debtsHold 47 = .ok (.istore 8, 2) := by decide +kernel
theorem dL_debtsHold_49 : decode cL_debtsHold 49 = .ok (.iload 8, 2) := by decide +kernel
theorem dL_debtsHold_51 : decode cL_debtsHold 51 = .ok (.aload_n 0, 1) := by decide +kernel
theorem dL_debtsHold_52 : decode cL_debtsHold 52 = .ok (.iconst 1, 1) := by decide +kernel
theorem dL_debtsHold_53 : decode cL_debtsHold 53 = .ok (.invokestatic 68, 3) := by decide +kernel
theorem dL_debtsHold_56 : decode cL_debtsHold 56 = .ok (.if_icmp .ge 132, 3) := by decide +kernel
theorem dL_debtsHold_59 : decode cL_debtsHold 59 = .ok (.aload_n 0, 1) := by decide +kernel
theorem dL_debtsHold_60 : decode cL_debtsHold 60 = .ok (.iload 8, 2) := by decide +kernel
theorem dL_debtsHold_62 : decode cL_debtsHold 62 = .ok (.iconst 0, 1) := by decide +kernel
theorem dL_debtsHold_63 : decode cL_debtsHold 63 = .ok (.invokestatic 73, 3) := by decide +kernel
theorem dL_debtsHold_66 : decode cL_debtsHold 66 = .ok (.iload 4, 2) := by decide +kernel
theorem dL_debtsHold_68 : decode cL_debtsHold 68 = .ok (.if_icmp .ne 19, 3) := by decide +kernel
theorem dL_debtsHold_71 : decode cL_debtsHold 71 = .ok (.aload_n 0, 1) := by decide +kernel
theorem dL_debtsHold_72 : decode cL_debtsHold 72 = .ok (.iload 8, 2) := by decide +kernel
theorem dL_debtsHold_74 : decode cL_debtsHold 74 = .ok (.iconst 1, 1) := by decide +kernel
theorem dL_debtsHold_75 : decode cL_debtsHold 75 = .ok (.invokestatic 73, 3) := by decide +kernel
theorem dL_debtsHold_78 : decode cL_debtsHold 78 = .ok (.iload 6, 2) := by decide +kernel
theorem dL_debtsHold_80 : decode cL_debtsHold 80 = .ok (.if_icmp .ne 7, 3) := by decide +kernel
theorem dL_debtsHold_83 : decode cL_debtsHold 83 = .ok (.iconst 1, 1) := by decide +kernel
theorem dL_debtsHold_84 : decode cL_debtsHold 84 = .ok (.goto 4, 3) := by decide +kernel
theorem dL_debtsHold_87 : decode cL_debtsHold 87 = .ok (.iconst 0, 1) := by decide +kernel
theorem dL_debtsHold_88 : decode cL_debtsHold 88 = .ok (.istore 9, 2) := by decide +kernel
theorem dL_debtsHold_90 : decode cL_debtsHold 90 = .ok (.iload 7, 2) := by decide +kernel
theorem dL_debtsHold_92 : decode cL_debtsHold 92 = .ok (.iload 9, 2) := by decide +kernel
theorem dL_debtsHold_94 : decode cL_debtsHold 94 = .ok (.ifCond .eq 23, 3) := by decide +kernel
theorem dL_debtsHold_97 : decode cL_debtsHold 97 = .ok (.aload_n 0, 1) := by decide +kernel
theorem dL_debtsHold_98 : decode cL_debtsHold 98 = .ok (.iload 8, 2) := by decide +kernel
theorem dL_debtsHold_100 : decode cL_debtsHold 100 = .ok (.iconst 4, 1) := by decide +kernel
theorem dL_debtsHold_101 : decode cL_debtsHold 101 = .ok (.invokestatic 73, 3) := by decide +kernel
theorem dL_debtsHold_104 : decode cL_debtsHold 104 = .ok (.ifCond .ne 13, 3) := by decide +kernel
theorem dL_debtsHold_107 : decode cL_debtsHold 107 = .ok (.aload_n 0, 1) := by decide +kernel
theorem dL_debtsHold_108 : decode cL_debtsHold 108 = .ok (.iload 8, 2) := by decide +kernel
theorem dL_debtsHold_110 : decode cL_debtsHold 110 = .ok (.iconst 2, 1) := by decide +kernel
theorem dL_debtsHold_111 : decode cL_debtsHold 111 = .ok (.invokestatic 73, 3) := by decide +kernel
theorem dL_debtsHold_114 : decode cL_debtsHold 114 = .ok (.goto 4, 3) := by decide +kernel
theorem dL_debtsHold_117 : decode cL_debtsHold 117 = .ok (.iconst 0, 1) := by decide +kernel
theorem dL_debtsHold_118 : decode cL_debtsHold 118 = .ok (.iadd, 1) := by decide +kernel
theorem dL_debtsHold_119 : decode cL_debtsHold 119 = .ok (.istore 7, 2) := by decide +kernel
theorem dL_debtsHold_121 : decode cL_debtsHold 121 = .ok (.iload 5, 2) := by decide +kernel
theorem dL_debtsHold_123 : decode cL_debtsHold 123 = .ok (.iload 9, 2) := by decide +kernel
theorem dL_debtsHold_125 : decode cL_debtsHold 125 = .ok (.ifCond .eq 13, 3) := by decide +kernel
theorem dL_debtsHold_128 : decode cL_debtsHold 128 = .ok (.aload_n 0, 1) := by decide +kernel
theorem dL_debtsHold_129 : decode cL_debtsHold 129 = .ok (.iload 8, 2) := by decide +kernel
theorem dL_debtsHold_131 : decode cL_debtsHold 131 = .ok (.iconst 2, 1) := by decide +kernel
theorem dL_debtsHold_132 : decode cL_debtsHold 132 = .ok (.invokestatic 73, 3) := by decide +kernel
theorem dL_debtsHold_135 : decode cL_debtsHold 135 = .ok (.goto 4, 3) := by decide +kernel
theorem dL_debtsHold_138 : decode cL_debtsHold 138 = .ok (.iconst 0, 1) := by decide +kernel
theorem dL_debtsHold_139 : decode cL_debtsHold 139 = .ok (.isub, 1) := by decide +kernel
theorem dL_debtsHold_140 : decode cL_debtsHold 140 = .ok (.istore 5, 2) := by decide +kernel
theorem dL_debtsHold_142 : decode cL_debtsHold 142 = .ok (.iload 5, 2) := by decide +kernel
theorem dL_debtsHold_144 : decode cL_debtsHold 144 = .ok (.aload_n 0, 1) := by decide +kernel
theorem dL_debtsHold_145 : decode cL_debtsHold 145 = .ok (.iload 8, 2) := by decide +kernel
theorem dL_debtsHold_147 : decode cL_debtsHold 147 = .ok (.iconst 0, 1) := by decide +kernel
theorem dL_debtsHold_148 : decode cL_debtsHold 148 = .ok (.invokestatic 73, 3) := by decide +kernel
theorem dL_debtsHold_151 : decode cL_debtsHold 151 = .ok (.iload 6, 2) := by decide +kernel
theorem dL_debtsHold_153 : decode cL_debtsHold 153 = .ok (.if_icmp .ne 25, 3) := by decide +kernel
theorem dL_debtsHold_156 : decode cL_debtsHold 156 = .ok (.aload_n 0, 1) := by decide +kernel
theorem dL_debtsHold_157 : decode cL_debtsHold 157 = .ok (.iload 8, 2) := by decide +kernel
theorem dL_debtsHold_159 : decode cL_debtsHold 159 = .ok (.iconst 1, 1) := by decide +kernel
theorem dL_debtsHold_160 : decode cL_debtsHold 160 = .ok (.invokestatic 73, 3) := by decide +kernel
theorem dL_debtsHold_163 : decode cL_debtsHold 163 = .ok (.iload 4, 2) := by decide +kernel
theorem dL_debtsHold_165 : decode cL_debtsHold 165 = .ok (.if_icmp .ne 13, 3) := by decide +kernel
theorem dL_debtsHold_168 : decode cL_debtsHold 168 = .ok (.aload_n 0, 1) := by decide +kernel
theorem dL_debtsHold_169 : decode cL_debtsHold 169 = .ok (.iload 8, 2) := by decide +kernel
theorem dL_debtsHold_171 : decode cL_debtsHold 171 = .ok (.iconst 2, 1) := by decide +kernel
theorem dL_debtsHold_172 : decode cL_debtsHold 172 = .ok (.invokestatic 73, 3) := by decide +kernel
theorem dL_debtsHold_175 : decode cL_debtsHold 175 = .ok (.goto 4, 3) := by decide +kernel
theorem dL_debtsHold_178 : decode cL_debtsHold 178 = .ok (.iconst 0, 1) := by decide +kernel
theorem dL_debtsHold_179 : decode cL_debtsHold 179 = .ok (.iadd, 1) := by decide +kernel
theorem dL_debtsHold_180 : decode cL_debtsHold 180 = .ok (.istore 5, 2) := by decide +kernel
theorem dL_debtsHold_182 : decode cL_debtsHold 182 = .ok (.iinc 8 1, 3) := by decide +kernel
theorem dL_debtsHold_185 : decode cL_debtsHold 185 = .ok (.goto (-136), 3) := by decide +kernel
theorem dL_debtsHold_188 : decode cL_debtsHold 188 = .ok (.aload_n 0, 1) := by decide +kernel
theorem dL_debtsHold_189 : decode cL_debtsHold 189 = .ok (.iload 4, 2) := by decide +kernel
theorem dL_debtsHold_191 : decode cL_debtsHold 191 = .ok (.iload 6, 2) := by decide +kernel
theorem dL_debtsHold_193 : decode cL_debtsHold 193 = .ok (.invokestatic 76, 3) := by decide +kernel
theorem dL_debtsHold_196 : decode cL_debtsHold 196 = .ok (.iload 7, 2) := by decide +kernel
theorem dL_debtsHold_198 : decode cL_debtsHold 198 = .ok (.if_icmp .ne 7, 3) := by decide +kernel
theorem dL_debtsHold_201 : decode cL_debtsHold 201 = .ok (.iconst 1, 1) := by decide +kernel
theorem dL_debtsHold_202 : decode cL_debtsHold 202 = .ok (.goto 4, 3) := by decide +kernel
theorem dL_debtsHold_205 : decode cL_debtsHold 205 = .ok (.iconst 0, 1) := by decide +kernel
theorem dL_debtsHold_206 : decode cL_debtsHold 206 = .ok (.istore_n 3, 1) := by decide +kernel
theorem dL_debtsHold_207 : decode cL_debtsHold 207 = .ok (.iinc 6 1, 3) := by decide +kernel
theorem dL_debtsHold_210 : decode cL_debtsHold 210 = .ok (.goto (-181), 3) := by decide +kernel
theorem dL_debtsHold_213 : decode cL_debtsHold 213 = .ok (.iload_n 3, 1) := by decide +kernel
theorem dL_debtsHold_214 : decode cL_debtsHold 214 = .ok (.ifCond .eq 18, 3) := by decide +kernel
theorem dL_debtsHold_217 : decode cL_debtsHold 217 = .ok (.aload_n 0, 1) := by decide +kernel
theorem dL_debtsHold_218 : decode cL_debtsHold 218 = .ok (.iload 4, 2) := by decide +kernel
theorem dL_debtsHold_220 : decode cL_debtsHold 220 = .ok (.invokestatic 78, 3) := by decide +kernel
theorem dL_debtsHold_223 : decode cL_debtsHold 223 = .ok (.iload 5, 2) := by decide +kernel
theorem dL_debtsHold_225 : decode cL_debtsHold 225 = .ok (.if_icmp .ne 7, 3) := by decide +kernel
theorem dL_debtsHold_228 : decode cL_debtsHold 228 = .ok (.iconst 1, 1) := by decide +kernel
theorem dL_debtsHold_229 : decode cL_debtsHold 229 = .ok (.goto 4, 3) := by decide +kernel
theorem dL_debtsHold_232 : decode cL_debtsHold 232 = .ok (.iconst 0, 1) := by decide +kernel
theorem dL_debtsHold_233 : decode cL_debtsHold 233 = .ok (.istore_n 3, 1) := by decide +kernel
theorem dL_debtsHold_234 : decode cL_debtsHold 234 = .ok (.iload_n 1, 1) := by decide +kernel
theorem dL_debtsHold_235 : decode cL_debtsHold 235 = .ok (.iload 5, 2) := by decide +kernel
theorem dL_debtsHold_237 : decode cL_debtsHold 237 = .ok (.iadd, 1) := by decide +kernel
theorem dL_debtsHold_238 : decode cL_debtsHold 238 = .ok (.istore_n 1, 1) := by decide +kernel
theorem dL_debtsHold_239 : decode cL_debtsHold 239 = .ok (.iload_n 2, 1) := by decide +kernel
theorem dL_debtsHold_240 : decode cL_debtsHold 240 = .ok (.iload 5, 2) := by decide +kernel
theorem dL_debtsHold_242 : decode cL_debtsHold 242 = .ok (.ifCond .le 8, 3) := by decide +kernel
theorem dL_debtsHold_245 : decode cL_debtsHold 245 = .ok (.iload 5, 2) := by decide +kernel
theorem dL_debtsHold_247 : decode cL_debtsHold 247 = .ok (.goto 4, 3) := by decide +kernel
theorem dL_debtsHold_250 : decode cL_debtsHold 250 = .ok (.iconst 0, 1) := by decide +kernel
theorem dL_debtsHold_251 : decode cL_debtsHold 251 = .ok (.iadd, 1) := by decide +kernel
theorem dL_debtsHold_252 : decode cL_debtsHold 252 = .ok (.istore_n 2, 1) := by decide +kernel
theorem dL_debtsHold_253 : decode cL_debtsHold 253 = .ok (.iinc 4 1, 3) := by decide +kernel
theorem dL_debtsHold_256 : decode cL_debtsHold 256 = .ok (.goto (-247), 3) := by decide +kernel
theorem dL_debtsHold_259 : decode cL_debtsHold 259 = .ok (.iload_n 3, 1) := by decide +kernel
theorem dL_debtsHold_260 : decode cL_debtsHold 260 = .ok (.ifCond .eq 21, 3) := by decide +kernel
theorem dL_debtsHold_263 : decode cL_debtsHold 263 = .ok (.iload_n 1, 1) := by decide +kernel
theorem dL_debtsHold_264 : decode cL_debtsHold 264 = .ok (.ifCond .ne 17, 3) := by decide +kernel
theorem dL_debtsHold_267 : decode cL_debtsHold 267 = .ok (.aload_n 0, 1) := by decide +kernel
theorem dL_debtsHold_268 : decode cL_debtsHold 268 = .ok (.bipush 10, 2) := by decide +kernel
theorem dL_debtsHold_270 : decode cL_debtsHold 270 = .ok (.invokestatic 68, 3) := by decide +kernel
theorem dL_debtsHold_273 : decode cL_debtsHold 273 = .ok (.iload_n 2, 1) := by decide +kernel
theorem dL_debtsHold_274 : decode cL_debtsHold 274 = .ok (.if_icmp .ne 7, 3) := by decide +kernel
theorem dL_debtsHold_277 : decode cL_debtsHold 277 = .ok (.iconst 1, 1) := by decide +kernel
theorem dL_debtsHold_278 : decode cL_debtsHold 278 = .ok (.goto 4, 3) := by decide +kernel
theorem dL_debtsHold_281 : decode cL_debtsHold 281 = .ok (.iconst 0, 1) := by decide +kernel
theorem dL_debtsHold_282 : decode cL_debtsHold 282 = .ok (.ireturn, 1) := by decide +kernel
theorem dL_isRing_0 : decode cL_isRing 0 = .ok (.aload_n 0, 1) := by decide +kernel
theorem dL_isRing_1 : decode cL_isRing 1 = .ok (.iload_n 1, 1) := by decide +kernel
theorem dL_isRing_2 : decode cL_isRing 2 = .ok (.iconst 0, 1) := by decide +kernel
theorem dL_isRing_3 : decode cL_isRing 3 = .ok (.invokestatic 80, 3) := by decide +kernel
theorem dL_isRing_6 : decode cL_isRing 6 = .ok (.istore_n 2, 1) := by decide +kernel
theorem dL_isRing_7 : decode cL_isRing 7 = .ok (.ldc 82, 2) := by decide +kernel
theorem dL_isRing_9 : decode cL_isRing 9 = .ok (.istore_n 3, 1) := by decide +kernel
theorem dL_isRing_10 : decode cL_isRing 10 = .ok (.iconst 0, 1) := by decide +kernel
theorem dL_isRing_11 : decode cL_isRing 11 = .ok (.istore 4, 2) := by decide +kernel
theorem dL_isRing_13 : decode cL_isRing 13 = .ok (.aload_n 0, 1) := by decide +kernel
theorem dL_isRing_14 : decode cL_isRing 14 = .ok (.iload_n 1, 1) := by decide +kernel
theorem dL_isRing_15 : decode cL_isRing 15 = .ok (.iconst 1, 1) := by decide +kernel
theorem dL_isRing_16 : decode cL_isRing 16 = .ok (.invokestatic 80, 3) := by decide +kernel
theorem dL_isRing_19 : decode cL_isRing 19 = .ok (.ifCond .lt 7, 3) := by decide +kernel
theorem dL_isRing_22 : decode cL_isRing 22 = .ok (.iconst 1, 1) := by decide +kernel
theorem dL_isRing_23 : decode cL_isRing 23 = .ok (.goto 4, 3) := by decide +kernel
theorem dL_isRing_26 : decode cL_isRing 26 = .ok (.iconst 0, 1) := by decide +kernel
theorem dL_isRing_27 : decode cL_isRing 27 = .ok (.istore 5, 2) := by decide +kernel
theorem dL_isRing_29 : decode cL_isRing 29 = .ok (.iload 4, 2) := by decide +kernel
theorem dL_isRing_31 : decode cL_isRing 31 = .ok (.bipush 7, 2) := by decide +kernel
theorem dL_isRing_33 : decode cL_isRing 33 = .ok (.if_icmp .ge 159, 3) := by decide +kernel
theorem dL_isRing_36 : decode cL_isRing 36 = .ok (.aload_n 0, 1) := by decide +kernel
theorem dL_isRing_37 : decode cL_isRing 37 = .ok (.iload_n 1, 1) := by decide +kernel
theorem dL_isRing_38 : decode cL_isRing 38 = .ok (.iload 4, 2) := by decide +kernel
theorem dL_isRing_40 : decode cL_isRing 40 = .ok (.invokestatic 80, 3) := by decide +kernel
theorem dL_isRing_43 : decode cL_isRing 43 = .ok (.ifCond .lt 149, 3) := by decide +kernel
theorem dL_isRing_46 : decode cL_isRing 46 = .ok (.iload 5, 2) := by decide +kernel
theorem dL_isRing_48 : decode cL_isRing 48 = .ok (.ifCond .eq 144, 3) := by decide +kernel
theorem dL_isRing_51 : decode cL_isRing 51 = .ok (.iload 4, 2) := by decide +kernel
theorem dL_isRing_53 : decode cL_isRing 53 = .ok (.bipush 6, 2) := by decide +kernel
theorem dL_isRing_55 : decode cL_isRing 55 = .ok (.if_icmp .eq 16, 3) := by decide +kernel
theorem dL_isRing_58 : decode cL_isRing 58 = .ok (.aload_n 0, 1) := by decide +kernel
theorem dL_isRing_59 : decode cL_isRing 59 = .ok (.iload_n 1, 1) := by decide +kernel
theorem dL_isRing_60 : decode cL_isRing 60 = .ok (.iload 4, 2) := by decide +kernel
theorem dL_isRing_62 : decode cL_isRing 62 = .ok (.iconst 1, 1) := by decide +kernel
theorem dL_isRing_63 : decode cL_isRing 63 = .ok (.iadd, 1) := by decide +kernel
theorem dL_isRing_64 : decode cL_isRing 64 = .ok (.invokestatic 80, 3) := by decide +kernel
theorem dL_isRing_67 : decode cL_isRing 67 = .ok (.iconst (-1), 1) := by decide +kernel
theorem dL_isRing_68 : decode cL_isRing 68 = .ok (.if_icmp .ne 7, 3) := by decide +kernel
theorem dL_isRing_71 : decode cL_isRing 71 = .ok (.iconst 1, 1) := by decide +kernel
theorem dL_isRing_72 : decode cL_isRing 72 = .ok (.goto 4, 3) := by decide +kernel
theorem dL_isRing_75 : decode cL_isRing 75 = .ok (.iconst 0, 1) := by decide +kernel
theorem dL_isRing_76 : decode cL_isRing 76 = .ok (.istore 6, 2) := by decide +kernel
theorem dL_isRing_78 : decode cL_isRing 78 = .ok (.aload_n 0, 1) := by decide +kernel
theorem dL_isRing_79 : decode cL_isRing 79 = .ok (.aload_n 0, 1) := by decide +kernel
theorem dL_isRing_80 : decode cL_isRing 80 = .ok (.iload_n 1, 1) := by decide +kernel
theorem dL_isRing_81 : decode cL_isRing 81 = .ok (.iload 4, 2) := by decide +kernel
theorem dL_isRing_83 : decode cL_isRing 83 = .ok (.invokestatic 80, 3) := by decide +kernel
theorem dL_isRing_86 : decode cL_isRing 86 = .ok (.iload 6, 2) := by decide +kernel
theorem dL_isRing_88 : decode cL_isRing 88 = .ok (.ifCond .eq 7, 3) := by decide +kernel
theorem dL_isRing_91 : decode cL_isRing 91 = .ok (.iload_n 2, 1) := by decide +kernel
theorem dL_isRing_92 : decode cL_isRing 92 = .ok (.goto 12, 3) := by decide +kernel
theorem dL_isRing_95 : decode cL_isRing 95 = .ok (.aload_n 0, 1) := by decide +kernel
theorem dL_isRing_96 : decode cL_isRing 96 = .ok (.iload_n 1, 1) := by decide +kernel
theorem dL_isRing_97 : decode cL_isRing 97 = .ok (.iload 4, 2) := by decide +kernel
theorem dL_isRing_99 : decode cL_isRing 99 = .ok (.iconst 1, 1) := by decide +kernel
theorem dL_isRing_100 : decode cL_isRing 100 = .ok (.iadd, 1) := by decide +kernel
theorem dL_isRing_101 : decode cL_isRing 101 = .ok (.invokestatic 80, 3) := by decide +kernel
theorem dL_isRing_104 : decode cL_isRing 104 = .ok (.invokestatic 76, 3) := by decide +kernel
theorem dL_isRing_107 : decode cL_isRing 107 = .ok (.istore 7, 2) := by decide +kernel
theorem dL_isRing_109 : decode cL_isRing 109 = .ok (.iload 7, 2) := by decide +kernel
theorem dL_isRing_111 : decode cL_isRing 111 = .ok (.iload_n 3, 1) := by decide +kernel
theorem dL_isRing_112 : decode cL_isRing 112 = .ok (.if_icmp .ge 8, 3) := by decide +kernel
theorem dL_isRing_115 : decode cL_isRing 115 = .ok (.iload 7, 2) := by decide +kernel
theorem dL_isRing_117 : decode cL_isRing 117 = .ok (.goto 4, 3) := by decide +kernel
theorem dL_isRing_120 : decode cL_isRing 120 = .ok (.iload_n 3, 1) := by decide +kernel
theorem dL_isRing_121 : decode cL_isRing 121 = .ok (.istore_n 3, 1) := by decide +kernel
theorem dL_isRing_122 : decode cL_isRing 122 = .ok (.iload 7, 2) := by decide +kernel
theorem dL_isRing_124 : decode cL_isRing 124 = .ok (.ifCond .le 46, 3) := by decide +kernel
theorem dL_isRing_127 : decode cL_isRing 127 = .ok (.iload 4, 2) := by decide +kernel
theorem dL_isRing_129 : decode cL_isRing 129 = .ok (.ifCond .eq 14, 3) := by decide +kernel
theorem dL_isRing_132 : decode cL_isRing 132 = .ok (.aload_n 0, 1) := by decide +kernel
theorem dL_isRing_133 : decode cL_isRing 133 = .ok (.iload_n 1, 1) := by decide +kernel
theorem dL_isRing_134 : decode cL_isRing 134 = .ok (.iload 4, 2) := by decide +kernel
theorem dL_isRing_136 : decode cL_isRing 136 = .ok (.invokestatic 80, 3) := by decide +kernel
theorem dL_isRing_139 : decode cL_isRing 139 = .ok (.iload_n 2, 1) := by decide +kernel
theorem dL_isRing_140 : decode cL_isRing 140 = .ok (.if_icmp .le 30, 3) := by decide +kernel
theorem dL_isRing_143 : decode cL_isRing 143 = .ok (.iload 6, 2) := by decide +kernel
theorem dL_isRing_145 : decode cL_isRing 145 = .ok (.ifCond .eq 21, 3) := by decide +kernel
theorem dL_isRing_148 : decode cL_isRing 148 = .ok (.iload 4, 2) := by decide +kernel
theorem dL_isRing_150 : decode cL_isRing 150 = .ok (.bipush 6, 2) := by decide +kernel
theorem dL_isRing_152 : decode cL_isRing 152 = .ok (.if_icmp .eq 14, 3) := by decide +kernel
theorem dL_isRing_155 : decode cL_isRing 155 = .ok (.aload_n 0, 1) := by decide +kernel
theorem dL_isRing_156 : decode cL_isRing 156 = .ok (.iload_n 1, 1) := by decide +kernel
theorem dL_isRing_157 : decode cL_isRing 157 = .ok (.bipush 6, 2) := by decide +kernel
theorem dL_isRing_159 : decode cL_isRing 159 = .ok (.invokestatic 80, 3) := by decide +kernel
theorem dL_isRing_162 : decode cL_isRing 162 = .ok (.iconst (-1), 1) := by decide +kernel
theorem dL_isRing_163 : decode cL_isRing 163 = .ok (.if_icmp .ne 7, 3) := by decide +kernel
theorem dL_isRing_166 : decode cL_isRing 166 = .ok (.iconst 1, 1) := by decide +kernel
theorem dL_isRing_167 : decode cL_isRing 167 = .ok (.goto 4, 3) := by decide +kernel
theorem dL_isRing_170 : decode cL_isRing 170 = .ok (.iconst 0, 1) := by decide +kernel
theorem dL_isRing_171 : decode cL_isRing 171 = .ok (.istore 5, 2) := by decide +kernel
theorem dL_isRing_173 : decode cL_isRing 173 = .ok (.iload 6, 2) := by decide +kernel
theorem dL_isRing_175 : decode cL_isRing 175 = .ok (.ifCond .eq 8, 3) := by decide +kernel
theorem dL_isRing_178 : decode cL_isRing 178 = .ok (.bipush 7, 2) := by decide +kernel
theorem dL_isRing_180 : decode cL_isRing 180 = .ok (.goto 7, 3) := by decide +kernel
theorem dL_isRing_183 : decode cL_isRing 183 = .ok (.iload 4, 2) := by decide +kernel
theorem dL_isRing_185 : decode cL_isRing 185 = .ok (.iconst 1, 1) := by decide +kernel
theorem dL_isRing_186 : decode cL_isRing 186 = .ok (.iadd, 1) := by decide +kernel
theorem dL_isRing_187 : decode cL_isRing 187 = .ok (.istore 4, 2) := by decide +kernel
theorem dL_isRing_189 : decode cL_isRing 189 = .ok (.goto (-160), 3) := by decide +kernel
theorem dL_isRing_192 : decode cL_isRing 192 = .ok (.iload 5, 2) := by decide +kernel
theorem dL_isRing_194 : decode cL_isRing 194 = .ok (.ifCond .eq 27, 3) := by decide +kernel
theorem dL_isRing_197 : decode cL_isRing 197 = .ok (.aload_n 0, 1) := by decide +kernel
theorem dL_isRing_198 : decode cL_isRing 198 = .ok (.iload_n 1, 1) := by decide +kernel
theorem dL_isRing_199 : decode cL_isRing 199 = .ok (.invokestatic 83, 3) := by decide +kernel
theorem dL_isRing_202 : decode cL_isRing 202 = .ok (.iload_n 3, 1) := by decide +kernel
theorem dL_isRing_203 : decode cL_isRing 203 = .ok (.if_icmp .ne 18, 3) := by decide +kernel
theorem dL_isRing_206 : decode cL_isRing 206 = .ok (.aload_n 0, 1) := by decide +kernel
theorem dL_isRing_207 : decode cL_isRing 207 = .ok (.iload_n 1, 1) := by decide +kernel
theorem dL_isRing_208 : decode cL_isRing 208 = .ok (.invokestatic 85, 3) := by decide +kernel
theorem dL_isRing_211 : decode cL_isRing 211 = .ok (.iconst 2, 1) := by decide +kernel
theorem dL_isRing_212 : decode cL_isRing 212 = .ok (.iload_n 3, 1) := by decide +kernel
theorem dL_isRing_213 : decode cL_isRing 213 = .ok (.imul, 1) := by decide +kernel
theorem dL_isRing_214 : decode cL_isRing 214 = .ok (.if_icmp .lt 7, 3) := by decide +kernel
theorem dL_isRing_217 : decode cL_isRing 217 = .ok (.iconst 1, 1) := by decide +kernel
theorem dL_isRing_218 : decode cL_isRing 218 = .ok (.goto 4, 3) := by decide +kernel
theorem dL_isRing_221 : decode cL_isRing 221 = .ok (.iconst 0, 1) := by decide +kernel
theorem dL_isRing_222 : decode cL_isRing 222 = .ok (.ireturn, 1) := by decide +kernel
theorem dL_isAhead_0 : decode cL_isAhead 0 = .ok (.iconst 0, 1) := by decide +kernel
theorem dL_isAhead_1 : decode cL_isAhead 1 = .ok (.istore_n 2, 1) := by decide +kernel
theorem dL_isAhead_2 : decode cL_isAhead 2 = .ok (.iload_n 2, 1) := by decide +kernel
theorem dL_isAhead_3 : decode cL_isAhead 3 = .ok (.bipush 6, 2) := by decide +kernel
theorem dL_isAhead_5 : decode cL_isAhead 5 = .ok (.if_icmp .ge 26, 3) := by decide +kernel
theorem dL_isAhead_8 : decode cL_isAhead 8 = .ok (.aload_n 0, 1) := by decide +kernel
theorem dL_isAhead_9 : decode cL_isAhead 9 = .ok (.iload_n 1, 1) := by decide +kernel
theorem dL_isAhead_10 : decode cL_isAhead 10 = .ok (.iload_n 2, 1) := by decide +kernel
theorem dL_isAhead_11 : decode cL_isAhead 11 = .ok (.invokestatic 80, 3) := by decide +kernel
theorem dL_isAhead_14 : decode cL_isAhead 14 = .ok (.aload_n 0, 1) := by decide +kernel
theorem dL_isAhead_15 : decode cL_isAhead 15 = .ok (.iload_n 1, 1) := by decide +kernel
theorem dL_isAhead_16 : decode cL_isAhead 16 = .ok (.iconst 1, 1) := by decide +kernel
theorem dL_isAhead_17 : decode cL_isAhead 17 = .ok (.iadd, 1) := by decide +kernel
theorem dL_isAhead_18 : decode cL_isAhead 18 = .ok (.iload_n 2, 1) := by decide +kernel
theorem dL_isAhead_19 : decode cL_isAhead 19 = .ok (.invokestatic 80, 3) := by decide +kernel
theorem dL_isAhead_22 : decode cL_isAhead 22 = .ok (.if_icmp .ne 9, 3) := by decide +kernel
theorem dL_isAhead_25 : decode cL_isAhead 25 = .ok (.iinc 2 1, 3) := by decide +kernel
theorem dL_isAhead_28 : decode cL_isAhead 28 = .ok (.goto (-26), 3) := by decide +kernel
theorem dL_isAhead_31 : decode cL_isAhead 31 = .ok (.aload_n 0, 1) := by decide +kernel
theorem dL_isAhead_32 : decode cL_isAhead 32 = .ok (.iload_n 1, 1) := by decide +kernel
theorem dL_isAhead_33 : decode cL_isAhead 33 = .ok (.iload_n 2, 1) := by decide +kernel
theorem dL_isAhead_34 : decode cL_isAhead 34 = .ok (.invokestatic 80, 3) := by decide +kernel
theorem dL_isAhead_37 : decode cL_isAhead 37 = .ok (.aload_n 0, 1) := by decide +kernel
theorem dL_isAhead_38 : decode cL_isAhead 38 = .ok (.iload_n 1, 1) := by decide +kernel
theorem dL_isAhead_39 : decode cL_isAhead 39 = .ok (.iconst 1, 1) := by decide +kernel
theorem dL_isAhead_40 : decode cL_isAhead 40 = .ok (.iadd, 1) := by decide +kernel
theorem dL_isAhead_41 : decode cL_isAhead 41 = .ok (.iload_n 2, 1) := by decide +kernel
theorem dL_isAhead_42 : decode cL_isAhead 42 = .ok (.invokestatic 80, 3) := by decide +kernel
theorem dL_isAhead_45 : decode cL_isAhead 45 = .ok (.if_icmp .ge 7, 3) := by decide +kernel
theorem dL_isAhead_48 : decode cL_isAhead 48 = .ok (.iconst 1, 1) := by decide +kernel
theorem dL_isAhead_49 : decode cL_isAhead 49 = .ok (.goto 4, 3) := by decide +kernel
theorem dL_isAhead_52 : decode cL_isAhead 52 = .ok (.iconst 0, 1) := by decide +kernel
theorem dL_isAhead_53 : decode cL_isAhead 53 = .ok (.ireturn, 1) := by decide +kernel
theorem dL_holds_0 : decode cL_holds 0 = .ok (.aload_n 0, 1) := by decide +kernel
theorem dL_holds_1 : decode cL_holds 1 = .ok (.invokestatic 87, 3) := by decide +kernel
theorem dL_holds_4 : decode cL_holds 4 = .ok (.ifCond .eq 14, 3) := by decide +kernel
theorem dL_holds_7 : decode cL_holds 7 = .ok (.aload_n 0, 1) := by decide +kernel
theorem dL_holds_8 : decode cL_holds 8 = .ok (.invokestatic 91, 3) := by decide +kernel
theorem dL_holds_11 : decode cL_holds 11 = .ok (.ifCond .eq 7, 3) := by decide +kernel
theorem dL_holds_14 : decode cL_holds 14 = .ok (.iconst 1, 1) := by decide +kernel
theorem dL_holds_15 : decode cL_holds 15 = .ok (.goto 4, 3) := by decide +kernel
theorem dL_holds_18 : decode cL_holds 18 = .ok (.iconst 0, 1) := by decide +kernel
theorem dL_holds_19 : decode cL_holds 19 = .ok (.istore_n 1, 1) := by decide +kernel
theorem dL_holds_20 : decode cL_holds 20 = .ok (.aload_n 0, 1) := by decide +kernel
theorem dL_holds_21 : decode cL_holds 21 = .ok (.bipush 6, 2) := by decide +kernel
theorem dL_holds_23 : decode cL_holds 23 = .ok (.invokestatic 68, 3) := by decide +kernel
theorem dL_holds_26 : decode cL_holds 26 = .ok (.istore_n 2, 1) := by decide +kernel
theorem dL_holds_27 : decode cL_holds 27 = .ok (.iconst 0, 1) := by decide +kernel
theorem dL_holds_28 : decode cL_holds 28 = .ok (.istore_n 3, 1) := by decide +kernel
theorem dL_holds_29 : decode cL_holds 29 = .ok (.iload_n 3, 1) := by decide +kernel
theorem dL_holds_30 : decode cL_holds 30 = .ok (.iload_n 2, 1) := by decide +kernel
theorem dL_holds_31 : decode cL_holds 31 = .ok (.if_icmp .ge 48, 3) := by decide +kernel
theorem dL_holds_34 : decode cL_holds 34 = .ok (.iload_n 3, 1) := by decide +kernel
theorem dL_holds_35 : decode cL_holds 35 = .ok (.bipush 12, 2) := by decide +kernel
theorem dL_holds_37 : decode cL_holds 37 = .ok (.if_icmp .ge 42, 3) := by decide +kernel
theorem dL_holds_40 : decode cL_holds 40 = .ok (.iload_n 1, 1) := by decide +kernel
theorem dL_holds_41 : decode cL_holds 41 = .ok (.ifCond .eq 38, 3) := by decide +kernel
theorem dL_holds_44 : decode cL_holds 44 = .ok (.aload_n 0, 1) := by decide +kernel
theorem dL_holds_45 : decode cL_holds 45 = .ok (.iload_n 3, 1) := by decide +kernel
theorem dL_holds_46 : decode cL_holds 46 = .ok (.invokestatic 94, 3) := by decide +kernel
theorem dL_holds_49 : decode cL_holds 49 = .ok (.ifCond .eq 22, 3) := by decide +kernel
theorem dL_holds_52 : decode cL_holds 52 = .ok (.iload_n 3, 1) := by decide +kernel
theorem dL_holds_53 : decode cL_holds 53 = .ok (.iconst 1, 1) := by decide +kernel
theorem dL_holds_54 : decode cL_holds 54 = .ok (.iadd, 1) := by decide +kernel
theorem dL_holds_55 : decode cL_holds 55 = .ok (.iload_n 2, 1) := by decide +kernel
theorem dL_holds_56 : decode cL_holds 56 = .ok (.if_icmp .eq 11, 3) := by decide +kernel
theorem dL_holds_59 : decode cL_holds 59 = .ok (.aload_n 0, 1) := by decide +kernel
theorem dL_holds_60 : decode cL_holds 60 = .ok (.iload_n 3, 1) := by decide +kernel
theorem dL_holds_61 : decode cL_holds 61 = .ok (.invokestatic 98, 3) := by decide +kernel
theorem dL_holds_64 : decode cL_holds 64 = .ok (.ifCond .eq 7, 3) := by decide +kernel
theorem dL_holds_67 : decode cL_holds 67 = .ok (.iconst 1, 1) := by decide +kernel
theorem dL_holds_68 : decode cL_holds 68 = .ok (.goto 4, 3) := by decide +kernel
theorem dL_holds_71 : decode cL_holds 71 = .ok (.iconst 0, 1) := by decide +kernel
theorem dL_holds_72 : decode cL_holds 72 = .ok (.istore_n 1, 1) := by decide +kernel
theorem dL_holds_73 : decode cL_holds 73 = .ok (.iinc 3 1, 3) := by decide +kernel
theorem dL_holds_76 : decode cL_holds 76 = .ok (.goto (-47), 3) := by decide +kernel
theorem dL_holds_79 : decode cL_holds 79 = .ok (.iload_n 1, 1) := by decide +kernel
theorem dL_holds_80 : decode cL_holds 80 = .ok (.ifCond .eq 42, 3) := by decide +kernel
theorem dL_holds_83 : decode cL_holds 83 = .ok (.aload_n 0, 1) := by decide +kernel
theorem dL_holds_84 : decode cL_holds 84 = .ok (.iload_n 2, 1) := by decide +kernel
theorem dL_holds_85 : decode cL_holds 85 = .ok (.invokestatic 83, 3) := by decide +kernel
theorem dL_holds_88 : decode cL_holds 88 = .ok (.ldc 16, 2) := by decide +kernel
theorem dL_holds_90 : decode cL_holds 90 = .ok (.if_icmp .ne 32, 3) := by decide +kernel
theorem dL_holds_93 : decode cL_holds 93 = .ok (.iload_n 2, 1) := by decide +kernel
theorem dL_holds_94 : decode cL_holds 94 = .ok (.ifCond .ne 7, 3) := by decide +kernel
theorem dL_holds_97 : decode cL_holds 97 = .ok (.iconst 1, 1) := by decide +kernel
theorem dL_holds_98 : decode cL_holds 98 = .ok (.goto 4, 3) := by decide +kernel
theorem dL_holds_101 : decode cL_holds 101 = .ok (.iconst 0, 1) := by decide +kernel
theorem dL_holds_102 : decode cL_holds 102 = .ok (.aload_n 0, 1) := by decide +kernel
theorem dL_holds_103 : decode cL_holds 103 = .ok (.invokevirtual 101, 3) := by decide +kernel
theorem dL_holds_106 : decode cL_holds 106 = .ok (.iconst (-1), 1) := by decide +kernel
theorem dL_holds_107 : decode cL_holds 107 = .ok (.if_icmp .ne 7, 3) := by decide +kernel
theorem dL_holds_110 : decode cL_holds 110 = .ok (.iconst 1, 1) := by decide +kernel
theorem dL_holds_111 : decode cL_holds 111 = .ok (.goto 4, 3) := by decide +kernel
theorem dL_holds_114 : decode cL_holds 114 = .ok (.iconst 0, 1) := by decide +kernel
theorem dL_holds_115 : decode cL_holds 115 = .ok (.if_icmp .ne 7, 3) := by decide +kernel
theorem dL_holds_118 : decode cL_holds 118 = .ok (.iconst 1, 1) := by decide +kernel
theorem dL_holds_119 : decode cL_holds 119 = .ok (.goto 4, 3) := by decide +kernel
theorem dL_holds_122 : decode cL_holds 122 = .ok (.iconst 0, 1) := by decide +kernel
theorem dL_holds_123 : decode cL_holds 123 = .ok (.ireturn, 1) := by decide +kernel
theorem dL_dischargesOne_0 : decode cL_dischargesOne 0 = .ok (.aload_n 0, 1) := by decide +kernel
theorem dL_dischargesOne_1 : decode cL_dischargesOne 1 = .ok (.bipush 6, 2) := by decide +kernel
theorem dL_dischargesOne_3 : decode cL_dischargesOne 3 = .ok (.invokestatic 68, 3) := by decide +kernel
theorem dL_dischargesOne_6 : decode cL_dischargesOne 6 = .ok (.istore_n 3, 1) := by decide +kernel
theorem dL_dischargesOne_7 : decode cL_dischargesOne 7 = .ok (.iload_n 1, 1) := by decide +kernel
theorem dL_dischargesOne_8 : decode cL_dischargesOne 8 = .ok (.iload_n 3, 1) := by decide +kernel
theorem dL_dischargesOne_9 : decode cL_dischargesOne 9 = .ok (.if_icmp .lt 20, 3) := by decide +kernel
theorem dL_dischargesOne_12 : decode cL_dischargesOne 12 = .ok (.aload_n 0, 1) := by decide +kernel
theorem dL_dischargesOne_13 : decode cL_dischargesOne 13 = .ok (.iload_n 1, 1) := by decide +kernel
theorem dL_dischargesOne_14 : decode cL_dischargesOne 14 = .ok (.iload_n 2, 1) := by decide +kernel
theorem dL_dischargesOne_15 : decode cL_dischargesOne 15 = .ok (.invokestatic 104, 3) := by decide +kernel
theorem dL_dischargesOne_18 : decode cL_dischargesOne 18 = .ok (.ldc 16, 2) := by decide +kernel
theorem dL_dischargesOne_20 : decode cL_dischargesOne 20 = .ok (.if_icmp .ne 7, 3) := by decide +kernel
theorem dL_dischargesOne_23 : decode cL_dischargesOne 23 = .ok (.iconst 1, 1) := by decide +kernel
theorem dL_dischargesOne_24 : decode cL_dischargesOne 24 = .ok (.goto 4, 3) := by decide +kernel
theorem dL_dischargesOne_27 : decode cL_dischargesOne 27 = .ok (.iconst 0, 1) := by decide +kernel
theorem dL_dischargesOne_28 : decode cL_dischargesOne 28 = .ok (.ireturn, 1) := by decide +kernel
theorem dL_dischargesOne_29 : decode cL_dischargesOne 29 = .ok (.aload_n 0, 1) := by decide +kernel
theorem dL_dischargesOne_30 : decode cL_dischargesOne 30 = .ok (.iload_n 1, 1) := by decide +kernel
theorem dL_dischargesOne_31 : decode cL_dischargesOne 31 = .ok (.invokestatic 83, 3) := by decide +kernel
theorem dL_dischargesOne_34 : decode cL_dischargesOne 34 = .ok (.istore 4, 2) := by decide +kernel
theorem dL_dischargesOne_36 : decode cL_dischargesOne 36 = .ok (.iconst 2, 1) := by decide +kernel
theorem dL_dischargesOne_37 : decode cL_dischargesOne 37 = .ok (.istore 5, 2) := by decide +kernel
theorem dL_dischargesOne_39 : decode cL_dischargesOne 39 = .ok (.iload 5, 2) := by decide +kernel
theorem dL_dischargesOne_41 : decode cL_dischargesOne 41 = .ok (.bipush 7, 2) := by decide +kernel
theorem dL_dischargesOne_43 : decode cL_dischargesOne 43 = .ok (.if_icmp .ge 19, 3) := by decide +kernel
theorem dL_dischargesOne_46 : decode cL_dischargesOne 46 = .ok (.aload_n 0, 1) := by decide +kernel
theorem dL_dischargesOne_47 : decode cL_dischargesOne 47 = .ok (.iload_n 1, 1) := by decide +kernel
theorem dL_dischargesOne_48 : decode cL_dischargesOne 48 = .ok (.iload 5, 2) := by decide +kernel
theorem dL_dischargesOne_50 : decode cL_dischargesOne 50 = .ok (.invokestatic 80, 3) := by decide +kernel
theorem dL_dischargesOne_53 : decode cL_dischargesOne 53 = .ok (.ifCond .lt 9, 3) := by decide +kernel
theorem dL_dischargesOne_56 : decode cL_dischargesOne 56 = .ok (.iinc 5 1, 3) := by decide +kernel
theorem dL_dischargesOne_59 : decode cL_dischargesOne 59 = .ok (.goto (-20), 3) := by decide +kernel
theorem dL_dischargesOne_62 : decode cL_dischargesOne 62 = .ok (.aload_n 0, 1) := by decide +kernel
theorem dL_dischargesOne_63 : decode cL_dischargesOne 63 = .ok (.iload_n 1, 1) := by decide +kernel
theorem dL_dischargesOne_64 : decode cL_dischargesOne 64 = .ok (.invokestatic 85, 3) := by decide +kernel
theorem dL_dischargesOne_67 : decode cL_dischargesOne 67 = .ok (.istore 6, 2) := by decide +kernel
theorem dL_dischargesOne_69 : decode cL_dischargesOne 69 = .ok (.aload_n 0, 1) := by decide +kernel
theorem dL_dischargesOne_70 : decode cL_dischargesOne 70 = .ok (.iconst 5, 1) := by decide +kernel
theorem dL_dischargesOne_71 : decode cL_dischargesOne 71 = .ok (.invokestatic 68, 3) := by decide +kernel
theorem dL_dischargesOne_74 : decode cL_dischargesOne 74 = .ok (.istore 7, 2) := by decide +kernel
theorem dL_dischargesOne_76 : decode cL_dischargesOne 76 = .ok (.aload_n 0, 1) := by decide +kernel
theorem dL_dischargesOne_77 : decode cL_dischargesOne 77 = .ok (.bipush 8, 2) := by decide +kernel
theorem dL_dischargesOne_79 : decode cL_dischargesOne 79 = .ok (.invokestatic 68, 3) := by decide +kernel
theorem dL_dischargesOne_82 : decode cL_dischargesOne 82 = .ok (.istore 8, 2) := by decide +kernel
theorem dL_dischargesOne_84 : decode cL_dischargesOne 84 = .ok (.aload_n 0, 1) := by decide +kernel
theorem dL_dischargesOne_85 : decode cL_dischargesOne 85 = .ok (.bipush 9, 2) := by decide +kernel
theorem dL_dischargesOne_87 : decode cL_dischargesOne 87 = .ok (.invokestatic 68, 3) := by decide +kernel
theorem dL_dischargesOne_90 : decode cL_dischargesOne 90 = .ok (.istore 9, 2) := by decide +kernel
theorem dL_dischargesOne_92 : decode cL_dischargesOne 92 = .ok (.aload_n 0, 1) := by decide +kernel
theorem dL_dischargesOne_93 : decode cL_dischargesOne 93 = .ok (.iconst 0, 1) := by decide +kernel
theorem dL_dischargesOne_94 : decode cL_dischargesOne 94 = .ok (.invokestatic 78, 3) := by decide +kernel
theorem dL_dischargesOne_97 : decode cL_dischargesOne 97 = .ok (.istore 10, 2) := by decide +kernel
theorem dL_dischargesOne_99 : decode cL_dischargesOne 99 = .ok (.aload_n 0, 1) := by decide +kernel
theorem dL_dischargesOne_100 : decode cL_dischargesOne 100 = .ok (.iconst 1, 1) := by decide +kernel
theorem dL_dischargesOne_101 : decode cL_dischargesOne 101 = .ok (.invokestatic 78, 3) := by decide +kernel
theorem dL_dischargesOne_104 : decode cL_dischargesOne 104 = .ok (.istore 11, 2) := by decide +kernel
theorem dL_dischargesOne_106 : decode cL_dischargesOne 106 = .ok (.aload_n 0, 1) := by decide +kernel
theorem dL_dischargesOne_107 : decode cL_dischargesOne 107 = .ok (.iload_n 1, 1) := by decide +kernel
theorem dL_dischargesOne_108 : decode cL_dischargesOne 108 = .ok (.iload_n 2, 1) := by decide +kernel
theorem dL_dischargesOne_109 : decode cL_dischargesOne 109 = .ok (.invokestatic 104, 3) := by decide +kernel
theorem dL_dischargesOne_112 : decode cL_dischargesOne 112 = .ok (.istore 12, 2) := by decide +kernel
theorem dL_dischargesOne_114 : decode cL_dischargesOne 114 = .ok (.iload_n 2, 1) := by decide +kernel
theorem dL_dischargesOne_115 : decode cL_dischargesOne 115 = .ok (.iload 4, 2) := by decide +kernel
theorem dL_dischargesOne_117 : decode cL_dischargesOne 117 = .ok (.if_icmp .le 37, 3) := by decide +kernel
theorem dL_dischargesOne_120 : decode cL_dischargesOne 120 = .ok (.iload 12, 2) := by decide +kernel
theorem dL_dischargesOne_122 : decode cL_dischargesOne 122 = .ok (.ldc 26, 2) := by decide +kernel
theorem dL_dischargesOne_124 : decode cL_dischargesOne 124 = .ok (.if_icmp .ne 28, 3) := by decide +kernel
theorem dL_dischargesOne_127 : decode cL_dischargesOne 127 = .ok (.aload_n 0, 1) := by decide +kernel
theorem dL_dischargesOne_128 : decode cL_dischargesOne 128 = .ok (.bipush 9, 2) := by decide +kernel
theorem dL_dischargesOne_130 : decode cL_dischargesOne 130 = .ok (.invokestatic 68, 3) := by decide +kernel
theorem dL_dischargesOne_133 : decode cL_dischargesOne 133 = .ok (.iload 9, 2) := by decide +kernel
theorem dL_dischargesOne_135 : decode cL_dischargesOne 135 = .ok (.if_icmp .ne 17, 3) := by decide +kernel
theorem dL_dischargesOne_138 : decode cL_dischargesOne 138 = .ok (.aload_n 0, 1) := by decide +kernel
theorem dL_dischargesOne_139 : decode cL_dischargesOne 139 = .ok (.iconst 5, 1) := by decide +kernel
theorem dL_dischargesOne_140 : decode cL_dischargesOne 140 = .ok (.invokestatic 68, 3) := by decide +kernel
theorem dL_dischargesOne_143 : decode cL_dischargesOne 143 = .ok (.iload 7, 2) := by decide +kernel
theorem dL_dischargesOne_145 : decode cL_dischargesOne 145 = .ok (.if_icmp .ne 7, 3) := by decide +kernel
theorem dL_dischargesOne_148 : decode cL_dischargesOne 148 = .ok (.iconst 1, 1) := by decide +kernel
theorem dL_dischargesOne_149 : decode cL_dischargesOne 149 = .ok (.goto 4, 3) := by decide +kernel
theorem dL_dischargesOne_152 : decode cL_dischargesOne 152 = .ok (.iconst 0, 1) := by decide +kernel
theorem dL_dischargesOne_153 : decode cL_dischargesOne 153 = .ok (.ireturn, 1) := by decide +kernel
theorem dL_dischargesOne_154 : decode cL_dischargesOne 154 = .ok (.aload_n 0, 1) := by decide +kernel
theorem dL_dischargesOne_155 : decode cL_dischargesOne 155 = .ok (.iconst 5, 1) := by decide +kernel
theorem dL_dischargesOne_156 : decode cL_dischargesOne 156 = .ok (.invokestatic 68, 3) := by decide +kernel
theorem dL_dischargesOne_159 : decode cL_dischargesOne 159 = .ok (.iload 7, 2) := by decide +kernel
theorem dL_dischargesOne_161 : decode cL_dischargesOne 161 = .ok (.iload 12, 2) := by decide +kernel
theorem dL_dischargesOne_163 : decode cL_dischargesOne 163 = .ok (.isub, 1) := by decide +kernel
theorem dL_dischargesOne_164 : decode cL_dischargesOne 164 = .ok (.if_icmp .ne 56, 3) := by decide +kernel
theorem dL_dischargesOne_167 : decode cL_dischargesOne 167 = .ok (.aload_n 0, 1) := by decide +kernel
theorem dL_dischargesOne_168 : decode cL_dischargesOne 168 = .ok (.bipush 8, 2) := by decide +kernel
theorem dL_dischargesOne_170 : decode cL_dischargesOne 170 = .ok (.invokestatic 68, 3) := by decide +kernel
theorem dL_dischargesOne_173 : decode cL_dischargesOne 173 = .ok (.iload 8, 2) := by decide +kernel
theorem dL_dischargesOne_175 : decode cL_dischargesOne 175 = .ok (.iload_n 2, 1) := by decide +kernel
theorem dL_dischargesOne_176 : decode cL_dischargesOne 176 = .ok (.iload 5, 2) := by decide +kernel
theorem dL_dischargesOne_178 : decode cL_dischargesOne 178 = .ok (.imul, 1) := by decide +kernel
theorem dL_dischargesOne_179 : decode cL_dischargesOne 179 = .ok (.iadd, 1) := by decide +kernel
theorem dL_dischargesOne_180 : decode cL_dischargesOne 180 = .ok (.if_icmp .ne 40, 3) := by decide +kernel
theorem dL_dischargesOne_183 : decode cL_dischargesOne 183 = .ok (.aload_n 0, 1) := by decide +kernel
theorem dL_dischargesOne_184 : decode cL_dischargesOne 184 = .ok (.bipush 9, 2) := by decide +kernel
theorem dL_dischargesOne_186 : decode cL_dischargesOne 186 = .ok (.invokestatic 68, 3) := by decide +kernel
theorem dL_dischargesOne_189 : decode cL_dischargesOne 189 = .ok (.iload 9, 2) := by decide +kernel
theorem dL_dischargesOne_191 : decode cL_dischargesOne 191 = .ok (.iconst 1, 1) := by decide +kernel
theorem dL_dischargesOne_192 : decode cL_dischargesOne 192 = .ok (.iadd, 1) := by decide +kernel
theorem dL_dischargesOne_193 : decode cL_dischargesOne 193 = .ok (.if_icmp .ne 27, 3) := by decide +kernel
theorem dL_dischargesOne_196 : decode cL_dischargesOne 196 = .ok (.aload_n 0, 1) := by decide +kernel
theorem dL_dischargesOne_197 : decode cL_dischargesOne 197 = .ok (.iconst 0, 1) := by decide +kernel
theorem dL_dischargesOne_198 : decode cL_dischargesOne 198 = .ok (.invokestatic 78, 3) := by decide +kernel
theorem dL_dischargesOne_201 : decode cL_dischargesOne 201 = .ok (.iload 10, 2) := by decide +kernel
theorem dL_dischargesOne_203 : decode cL_dischargesOne 203 = .ok (.if_icmp .ne 17, 3) := by decide +kernel
theorem dL_dischargesOne_206 : decode cL_dischargesOne 206 = .ok (.aload_n 0, 1) := by decide +kernel
theorem dL_dischargesOne_207 : decode cL_dischargesOne 207 = .ok (.iconst 1, 1) := by decide +kernel
theorem dL_dischargesOne_208 : decode cL_dischargesOne 208 = .ok (.invokestatic 78, 3) := by decide +kernel
theorem dL_dischargesOne_211 : decode cL_dischargesOne 211 = .ok (.iload 11, 2) := by decide +kernel
theorem dL_dischargesOne_213 : decode cL_dischargesOne 213 = .ok (.if_icmp .ne 7, 3) := by decide +kernel
theorem dL_dischargesOne_216 : decode cL_dischargesOne 216 = .ok (.iconst 1, 1) := by decide +kernel
theorem dL_dischargesOne_217 : decode cL_dischargesOne 217 = .ok (.goto 4, 3) := by decide +kernel
theorem dL_dischargesOne_220 : decode cL_dischargesOne 220 = .ok (.iconst 0, 1) := by decide +kernel
theorem dL_dischargesOne_221 : decode cL_dischargesOne 221 = .ok (.istore 13, 2) := by decide +kernel
theorem dL_dischargesOne_223 : decode cL_dischargesOne 223 = .ok (.iload 13, 2) := by decide +kernel
theorem dL_dischargesOne_225 : decode cL_dischargesOne 225 = .ok (.ifCond .eq 35, 3) := by decide +kernel
theorem dL_dischargesOne_228 : decode cL_dischargesOne 228 = .ok (.iload 12, 2) := by decide +kernel
theorem dL_dischargesOne_230 : decode cL_dischargesOne 230 = .ok (.ifCond .le 30, 3) := by decide +kernel
theorem dL_dischargesOne_233 : decode cL_dischargesOne 233 = .ok (.iload_n 2, 1) := by decide +kernel
theorem dL_dischargesOne_234 : decode cL_dischargesOne 234 = .ok (.iload 4, 2) := by decide +kernel
theorem dL_dischargesOne_236 : decode cL_dischargesOne 236 = .ok (.if_icmp .ge 13, 3) := by decide +kernel
theorem dL_dischargesOne_239 : decode cL_dischargesOne 239 = .ok (.iload 12, 2) := by decide +kernel
theorem dL_dischargesOne_241 : decode cL_dischargesOne 241 = .ok (.iload 6, 2) := by decide +kernel
theorem dL_dischargesOne_243 : decode cL_dischargesOne 243 = .ok (.if_icmp .gt 17, 3) := by decide +kernel
theorem dL_dischargesOne_246 : decode cL_dischargesOne 246 = .ok (.goto 10, 3) := by decide +kernel
theorem dL_dischargesOne_249 : decode cL_dischargesOne 249 = .ok (.iload 12, 2) := by decide +kernel
theorem dL_dischargesOne_251 : decode cL_dischargesOne 251 = .ok (.iload 6, 2) := by decide +kernel
theorem dL_dischargesOne_253 : decode cL_dischargesOne 253 = .ok (.if_icmp .ne 7, 3) := by decide +kernel
theorem dL_dischargesOne_256 : decode cL_dischargesOne 256 = .ok (.iconst 1, 1) := by decide +kernel
theorem dL_dischargesOne_257 : decode cL_dischargesOne 257 = .ok (.goto 4, 3) := by decide +kernel
theorem dL_dischargesOne_260 : decode cL_dischargesOne 260 = .ok (.iconst 0, 1) := by decide +kernel
theorem dL_dischargesOne_261 : decode cL_dischargesOne 261 = .ok (.ireturn, 1) := by decide +kernel
theorem dL_law_0 : decode cL_law 0 = .ok (.new 9, 3) := by decide +kernel
theorem dL_law_3 : decode cL_law 3 = .ok (.dup, 1) := by decide +kernel
theorem dL_law_4 : decode cL_law 4 = .ok (.invokespecial 107, 3) := by decide +kernel
theorem dL_law_7 : decode cL_law 7 = .ok (.astore_n 1, 1) := by decide +kernel
theorem dL_law_8 : decode cL_law 8 = .ok (.aload_n 1, 1) := by decide +kernel
theorem dL_law_9 : decode cL_law 9 = .ok (.invokestatic 108, 3) := by decide +kernel
theorem dL_law_12 : decode cL_law 12 = .ok (.ifCond .eq 23, 3) := by decide +kernel
theorem dL_law_15 : decode cL_law 15 = .ok (.aload_n 1, 1) := by decide +kernel
theorem dL_law_16 : decode cL_law 16 = .ok (.iconst 3, 1) := by decide +kernel
theorem dL_law_17 : decode cL_law 17 = .ok (.aload_n 0, 1) := by decide +kernel
theorem dL_law_18 : decode cL_law 18 = .ok (.iconst 0, 1) := by decide +kernel
theorem dL_law_19 : decode cL_law 19 = .ok (.invokestatic 111, 3) := by decide +kernel
theorem dL_law_22 : decode cL_law 22 = .ok (.iconst 4, 1) := by decide +kernel
theorem dL_law_23 : decode cL_law 23 = .ok (.irem, 1) := by decide +kernel
theorem dL_law_24 : decode cL_law 24 = .ok (.iadd, 1) := by decide +kernel
theorem dL_law_25 : decode cL_law 25 = .ok (.invokestatic 115, 3) := by decide +kernel
theorem dL_law_28 : decode cL_law 28 = .ok (.ifCond .ne 7, 3) := by decide +kernel
theorem dL_law_31 : decode cL_law 31 = .ok (.iconst 1, 1) := by decide +kernel
theorem dL_law_32 : decode cL_law 32 = .ok (.goto 4, 3) := by decide +kernel
theorem dL_law_35 : decode cL_law 35 = .ok (.iconst 0, 1) := by decide +kernel
theorem dL_law_36 : decode cL_law 36 = .ok (.istore_n 2, 1) := by decide +kernel
theorem dL_law_37 : decode cL_law 37 = .ok (.iconst 0, 1) := by decide +kernel
theorem dL_law_38 : decode cL_law 38 = .ok (.istore_n 3, 1) := by decide +kernel
theorem dL_law_39 : decode cL_law 39 = .ok (.iload_n 3, 1) := by decide +kernel
theorem dL_law_40 : decode cL_law 40 = .ok (.bipush 7, 2) := by decide +kernel
theorem dL_law_42 : decode cL_law 42 = .ok (.if_icmp .ge 91, 3) := by decide +kernel
theorem dL_law_45 : decode cL_law 45 = .ok (.iload_n 2, 1) := by decide +kernel
theorem dL_law_46 : decode cL_law 46 = .ok (.ifCond .eq 87, 3) := by decide +kernel
theorem dL_law_49 : decode cL_law 49 = .ok (.aload_n 0, 1) := by decide +kernel
theorem dL_law_50 : decode cL_law 50 = .ok (.iconst 1, 1) := by decide +kernel
theorem dL_law_51 : decode cL_law 51 = .ok (.iload_n 3, 1) := by decide +kernel
theorem dL_law_52 : decode cL_law 52 = .ok (.iadd, 1) := by decide +kernel
theorem dL_law_53 : decode cL_law 53 = .ok (.invokestatic 111, 3) := by decide +kernel
theorem dL_law_56 : decode cL_law 56 = .ok (.istore 4, 2) := by decide +kernel
theorem dL_law_58 : decode cL_law 58 = .ok (.aload_n 1, 1) := by decide +kernel
theorem dL_law_59 : decode cL_law 59 = .ok (.iconst 0, 1) := by decide +kernel
theorem dL_law_60 : decode cL_law 60 = .ok (.invokestatic 68, 3) := by decide +kernel
theorem dL_law_63 : decode cL_law 63 = .ok (.istore 5, 2) := by decide +kernel
theorem dL_law_65 : decode cL_law 65 = .ok (.iload 4, 2) := by decide +kernel
theorem dL_law_67 : decode cL_law 67 = .ok (.iload 5, 2) := by decide +kernel
theorem dL_law_69 : decode cL_law 69 = .ok (.irem, 1) := by decide +kernel
theorem dL_law_70 : decode cL_law 70 = .ok (.istore 6, 2) := by decide +kernel
theorem dL_law_72 : decode cL_law 72 = .ok (.aload_n 1, 1) := by decide +kernel
theorem dL_law_73 : decode cL_law 73 = .ok (.iload 6, 2) := by decide +kernel
theorem dL_law_75 : decode cL_law 75 = .ok (.iload 6, 2) := by decide +kernel
theorem dL_law_77 : decode cL_law 77 = .ok (.iconst 1, 1) := by decide +kernel
theorem dL_law_78 : decode cL_law 78 = .ok (.iadd, 1) := by decide +kernel
theorem dL_law_79 : decode cL_law 79 = .ok (.iload 4, 2) := by decide +kernel
theorem dL_law_81 : decode cL_law 81 = .ok (.bipush 8, 2) := by decide +kernel
theorem dL_law_83 : decode cL_law 83 = .ok (.idiv, 1) := by decide +kernel
theorem dL_law_84 : decode cL_law 84 = .ok (.iload 5, 2) := by decide +kernel
theorem dL_law_86 : decode cL_law 86 = .ok (.iconst 1, 1) := by decide +kernel
theorem dL_law_87 : decode cL_law 87 = .ok (.isub, 1) := by decide +kernel
theorem dL_law_88 : decode cL_law 88 = .ok (.irem, 1) := by decide +kernel
theorem dL_law_89 : decode cL_law 89 = .ok (.iadd, 1) := by decide +kernel
theorem dL_law_90 : decode cL_law 90 = .ok (.iload 5, 2) := by decide +kernel
theorem dL_law_92 : decode cL_law 92 = .ok (.irem, 1) := by decide +kernel
theorem dL_law_93 : decode cL_law 93 = .ok (.iconst 1, 1) := by decide +kernel
theorem dL_law_94 : decode cL_law 94 = .ok (.iload 4, 2) := by decide +kernel
theorem dL_law_96 : decode cL_law 96 = .ok (.bipush 64, 2) := by decide +kernel
theorem dL_law_98 : decode cL_law 98 = .ok (.idiv, 1) := by decide +kernel
theorem dL_law_99 : decode cL_law 99 = .ok (.sipush 300, 3) := by decide +kernel
theorem dL_law_102 : decode cL_law 102 = .ok (.irem, 1) := by decide +kernel
theorem dL_law_103 : decode cL_law 103 = .ok (.iadd, 1) := by decide +kernel
theorem dL_law_104 : decode cL_law 104 = .ok (.iconst 1, 1) := by decide +kernel
theorem dL_law_105 : decode cL_law 105 = .ok (.iload 4, 2) := by decide +kernel
theorem dL_law_107 : decode cL_law 107 = .ok (.ldc 118, 2) := by decide +kernel
theorem dL_law_109 : decode cL_law 109 = .ok (.idiv, 1) := by decide +kernel
theorem dL_law_110 : decode cL_law 110 = .ok (.bipush 9, 2) := by decide +kernel
theorem dL_law_112 : decode cL_law 112 = .ok (.irem, 1) := by decide +kernel
theorem dL_law_113 : decode cL_law 113 = .ok (.iadd, 1) := by decide +kernel
theorem dL_law_114 : decode cL_law 114 = .ok (.invokestatic 119, 3) := by decide +kernel
theorem dL_law_117 : decode cL_law 117 = .ok (.iload_n 3, 1) := by decide +kernel
theorem dL_law_118 : decode cL_law 118 = .ok (.if_icmp .ne 7, 3) := by decide +kernel
theorem dL_law_121 : decode cL_law 121 = .ok (.iconst 1, 1) := by decide +kernel
theorem dL_law_122 : decode cL_law 122 = .ok (.goto 4, 3) := by decide +kernel
theorem dL_law_125 : decode cL_law 125 = .ok (.iconst 0, 1) := by decide +kernel
theorem dL_law_126 : decode cL_law 126 = .ok (.istore_n 2, 1) := by decide +kernel
theorem dL_law_127 : decode cL_law 127 = .ok (.iinc 3 1, 3) := by decide +kernel
theorem dL_law_130 : decode cL_law 130 = .ok (.goto (-91), 3) := by decide +kernel
theorem dL_law_133 : decode cL_law 133 = .ok (.iconst 0, 1) := by decide +kernel
theorem dL_law_134 : decode cL_law 134 = .ok (.istore_n 3, 1) := by decide +kernel
theorem dL_law_135 : decode cL_law 135 = .ok (.iload_n 3, 1) := by decide +kernel
theorem dL_law_136 : decode cL_law 136 = .ok (.bipush 14, 2) := by decide +kernel
theorem dL_law_138 : decode cL_law 138 = .ok (.if_icmp .ge 536, 3) := by decide +kernel
theorem dL_law_141 : decode cL_law 141 = .ok (.iload_n 2, 1) := by decide +kernel
theorem dL_law_142 : decode cL_law 142 = .ok (.ifCond .eq 532, 3) := by decide +kernel
theorem dL_law_145 : decode cL_law 145 = .ok (.aload_n 0, 1) := by decide +kernel
theorem dL_law_146 : decode cL_law 146 = .ok (.bipush 8, 2) := by decide +kernel
theorem dL_law_148 : decode cL_law 148 = .ok (.iload_n 3, 1) := by decide +kernel
theorem dL_law_149 : decode cL_law 149 = .ok (.iadd, 1) := by decide +kernel
theorem dL_law_150 : decode cL_law 150 = .ok (.invokestatic 111, 3) := by decide +kernel
theorem dL_law_153 : decode cL_law 153 = .ok (.istore 4, 2) := by decide +kernel
theorem dL_law_155 : decode cL_law 155 = .ok (.iload 4, 2) := by decide +kernel
theorem dL_law_157 : decode cL_law 157 = .ok (.bipush 16, 2) := by decide +kernel
theorem dL_law_159 : decode cL_law 159 = .ok (.idiv, 1) := by decide +kernel
theorem dL_law_160 : decode cL_law 160 = .ok (.istore 5, 2) := by decide +kernel
theorem dL_law_162 : decode cL_law 162 = .ok (.aload_n 1, 1) := by decide +kernel
theorem dL_law_163 : decode cL_law 163 = .ok (.iconst 0, 1) := by decide +kernel
theorem dL_law_164 : decode cL_law 164 = .ok (.invokestatic 68, 3) := by decide +kernel
theorem dL_law_167 : decode cL_law 167 = .ok (.istore 6, 2) := by decide +kernel
theorem dL_law_169 : decode cL_law 169 = .ok (.iload 5, 2) := by decide +kernel
theorem dL_law_171 : decode cL_law 171 = .ok (.aload_n 1, 1) := by decide +kernel
theorem dL_law_172 : decode cL_law 172 = .ok (.iconst 1, 1) := by decide +kernel
theorem dL_law_173 : decode cL_law 173 = .ok (.invokestatic 68, 3) := by decide +kernel
theorem dL_law_176 : decode cL_law 176 = .ok (.irem, 1) := by decide +kernel
theorem dL_law_177 : decode cL_law 177 = .ok (.istore 7, 2) := by decide +kernel
theorem dL_law_179 : decode cL_law 179 = .ok (.iload 4, 2) := by decide +kernel
theorem dL_law_181 : decode cL_law 181 = .ok (.bipush 16, 2) := by decide +kernel
theorem dL_law_183 : decode cL_law 183 = .ok (.irem, 1) := by decide +kernel
theorem dL_law_184 : decode cL_law 184 = .ok (.tableswitch 397 0 8 #[52, 52, 176, 256, 332, 374, 374, 374, 374], 52) := by decide +kernel
theorem dL_law_236 : decode cL_law 236 = .ok (.aload_n 1, 1) := by decide +kernel
theorem dL_law_237 : decode cL_law 237 = .ok (.iload 7, 2) := by decide +kernel
theorem dL_law_239 : decode cL_law 239 = .ok (.iconst 2, 1) := by decide +kernel
theorem dL_law_240 : decode cL_law 240 = .ok (.invokestatic 73, 3) := by decide +kernel
theorem dL_law_243 : decode cL_law 243 = .ok (.istore 8, 2) := by decide +kernel
theorem dL_law_245 : decode cL_law 245 = .ok (.aload_n 1, 1) := by decide +kernel
theorem dL_law_246 : decode cL_law 246 = .ok (.aload_n 1, 1) := by decide +kernel
theorem dL_law_247 : decode cL_law 247 = .ok (.iload 7, 2) := by decide +kernel
theorem dL_law_249 : decode cL_law 249 = .ok (.iconst 0, 1) := by decide +kernel
theorem dL_law_250 : decode cL_law 250 = .ok (.invokestatic 73, 3) := by decide +kernel
theorem dL_law_253 : decode cL_law 253 = .ok (.invokestatic 78, 3) := by decide +kernel
theorem dL_law_256 : decode cL_law 256 = .ok (.istore 9, 2) := by decide +kernel
theorem dL_law_258 : decode cL_law 258 = .ok (.aload_n 1, 1) := by decide +kernel
theorem dL_law_259 : decode cL_law 259 = .ok (.iload 7, 2) := by decide +kernel
theorem dL_law_261 : decode cL_law 261 = .ok (.iconst 1, 1) := by decide +kernel
theorem dL_law_262 : decode cL_law 262 = .ok (.iload 5, 2) := by decide +kernel
theorem dL_law_264 : decode cL_law 264 = .ok (.bipush 64, 2) := by decide +kernel
theorem dL_law_266 : decode cL_law 266 = .ok (.idiv, 1) := by decide +kernel
theorem dL_law_267 : decode cL_law 267 = .ok (.bipush 100, 2) := by decide +kernel
theorem dL_law_269 : decode cL_law 269 = .ok (.irem, 1) := by decide +kernel
theorem dL_law_270 : decode cL_law 270 = .ok (.iadd, 1) := by decide +kernel
theorem dL_law_271 : decode cL_law 271 = .ok (.invokestatic 123, 3) := by decide +kernel
theorem dL_law_274 : decode cL_law 274 = .ok (.istore 10, 2) := by decide +kernel
theorem dL_law_276 : decode cL_law 276 = .ok (.iload 10, 2) := by decide +kernel
theorem dL_law_278 : decode cL_law 278 = .ok (.iconst 1, 1) := by decide +kernel
theorem dL_law_279 : decode cL_law 279 = .ok (.iload 5, 2) := by decide +kernel
theorem dL_law_281 : decode cL_law 281 = .ok (.bipush 64, 2) := by decide +kernel
theorem dL_law_283 : decode cL_law 283 = .ok (.idiv, 1) := by decide +kernel
theorem dL_law_284 : decode cL_law 284 = .ok (.bipush 100, 2) := by decide +kernel
theorem dL_law_286 : decode cL_law 286 = .ok (.irem, 1) := by decide +kernel
theorem dL_law_287 : decode cL_law 287 = .ok (.iadd, 1) := by decide +kernel
theorem dL_law_288 : decode cL_law 288 = .ok (.iload 8, 2) := by decide +kernel
theorem dL_law_290 : decode cL_law 290 = .ok (.if_icmp .le 8, 3) := by decide +kernel
theorem dL_law_293 : decode cL_law 293 = .ok (.ldc 26, 2) := by decide +kernel
theorem dL_law_295 : decode cL_law 295 = .ok (.goto 16, 3) := by decide +kernel
theorem dL_law_298 : decode cL_law 298 = .ok (.iload 8, 2) := by decide +kernel
theorem dL_law_300 : decode cL_law 300 = .ok (.iconst 1, 1) := by decide +kernel
theorem dL_law_301 : decode cL_law 301 = .ok (.isub, 1) := by decide +kernel
theorem dL_law_302 : decode cL_law 302 = .ok (.iload 5, 2) := by decide +kernel
theorem dL_law_304 : decode cL_law 304 = .ok (.bipush 64, 2) := by decide +kernel
theorem dL_law_306 : decode cL_law 306 = .ok (.idiv, 1) := by decide +kernel
theorem dL_law_307 : decode cL_law 307 = .ok (.bipush 100, 2) := by decide +kernel
theorem dL_law_309 : decode cL_law 309 = .ok (.irem, 1) := by decide +kernel
theorem dL_law_310 : decode cL_law 310 = .ok (.isub, 1) := by decide +kernel
theorem dL_law_311 : decode cL_law 311 = .ok (.if_icmp .ne 44, 3) := by decide +kernel
theorem dL_law_314 : decode cL_law 314 = .ok (.aload_n 1, 1) := by decide +kernel
theorem dL_law_315 : decode cL_law 315 = .ok (.aload_n 1, 1) := by decide +kernel
theorem dL_law_316 : decode cL_law 316 = .ok (.iload 7, 2) := by decide +kernel
theorem dL_law_318 : decode cL_law 318 = .ok (.iconst 0, 1) := by decide +kernel
theorem dL_law_319 : decode cL_law 319 = .ok (.invokestatic 73, 3) := by decide +kernel
theorem dL_law_322 : decode cL_law 322 = .ok (.invokestatic 78, 3) := by decide +kernel
theorem dL_law_325 : decode cL_law 325 = .ok (.iload 10, 2) := by decide +kernel
theorem dL_law_327 : decode cL_law 327 = .ok (.ifCond .ge 8, 3) := by decide +kernel
theorem dL_law_330 : decode cL_law 330 = .ok (.iload 9, 2) := by decide +kernel
theorem dL_law_332 : decode cL_law 332 = .ok (.goto 16, 3) := by decide +kernel
theorem dL_law_335 : decode cL_law 335 = .ok (.iload 9, 2) := by decide +kernel
theorem dL_law_337 : decode cL_law 337 = .ok (.iconst 1, 1) := by decide +kernel
theorem dL_law_338 : decode cL_law 338 = .ok (.iadd, 1) := by decide +kernel
theorem dL_law_339 : decode cL_law 339 = .ok (.iload 5, 2) := by decide +kernel
theorem dL_law_341 : decode cL_law 341 = .ok (.bipush 64, 2) := by decide +kernel
theorem dL_law_343 : decode cL_law 343 = .ok (.idiv, 1) := by decide +kernel
theorem dL_law_344 : decode cL_law 344 = .ok (.bipush 100, 2) := by decide +kernel
theorem dL_law_346 : decode cL_law 346 = .ok (.irem, 1) := by decide +kernel
theorem dL_law_347 : decode cL_law 347 = .ok (.iadd, 1) := by decide +kernel
theorem dL_law_348 : decode cL_law 348 = .ok (.if_icmp .ne 7, 3) := by decide +kernel
theorem dL_law_351 : decode cL_law 351 = .ok (.iconst 1, 1) := by decide +kernel
theorem dL_law_352 : decode cL_law 352 = .ok (.goto 4, 3) := by decide +kernel
theorem dL_law_355 : decode cL_law 355 = .ok (.iconst 0, 1) := by decide +kernel
theorem dL_law_356 : decode cL_law 356 = .ok (.istore_n 2, 1) := by decide +kernel
theorem dL_law_357 : decode cL_law 357 = .ok (.goto 294, 3) := by decide +kernel
theorem dL_law_360 : decode cL_law 360 = .ok (.aload_n 1, 1) := by decide +kernel
theorem dL_law_361 : decode cL_law 361 = .ok (.iload 7, 2) := by decide +kernel
theorem dL_law_363 : decode cL_law 363 = .ok (.iconst 2, 1) := by decide +kernel
theorem dL_law_364 : decode cL_law 364 = .ok (.invokestatic 73, 3) := by decide +kernel
theorem dL_law_367 : decode cL_law 367 = .ok (.ifCond .le 17, 3) := by decide +kernel
theorem dL_law_370 : decode cL_law 370 = .ok (.aload_n 1, 1) := by decide +kernel
theorem dL_law_371 : decode cL_law 371 = .ok (.iload 7, 2) := by decide +kernel
theorem dL_law_373 : decode cL_law 373 = .ok (.iconst 4, 1) := by decide +kernel
theorem dL_law_374 : decode cL_law 374 = .ok (.invokestatic 73, 3) := by decide +kernel
theorem dL_law_377 : decode cL_law 377 = .ok (.ifCond .ne 7, 3) := by decide +kernel
theorem dL_law_380 : decode cL_law 380 = .ok (.iconst 1, 1) := by decide +kernel
theorem dL_law_381 : decode cL_law 381 = .ok (.goto 4, 3) := by decide +kernel
theorem dL_law_384 : decode cL_law 384 = .ok (.iconst 0, 1) := by decide +kernel
theorem dL_law_385 : decode cL_law 385 = .ok (.istore 11, 2) := by decide +kernel
theorem dL_law_387 : decode cL_law 387 = .ok (.aload_n 1, 1) := by decide +kernel
theorem dL_law_388 : decode cL_law 388 = .ok (.iload 7, 2) := by decide +kernel
theorem dL_law_390 : decode cL_law 390 = .ok (.invokestatic 126, 3) := by decide +kernel
theorem dL_law_393 : decode cL_law 393 = .ok (.istore 12, 2) := by decide +kernel
theorem dL_law_395 : decode cL_law 395 = .ok (.iload 11, 2) := by decide +kernel
theorem dL_law_397 : decode cL_law 397 = .ok (.ifCond .eq 27, 3) := by decide +kernel
theorem dL_law_400 : decode cL_law 400 = .ok (.iload 12, 2) := by decide +kernel
theorem dL_law_402 : decode cL_law 402 = .ok (.ifCond .lt 18, 3) := by decide +kernel
theorem dL_law_405 : decode cL_law 405 = .ok (.aload_n 1, 1) := by decide +kernel
theorem dL_law_406 : decode cL_law 406 = .ok (.iload 7, 2) := by decide +kernel
theorem dL_law_408 : decode cL_law 408 = .ok (.iconst 4, 1) := by decide +kernel
theorem dL_law_409 : decode cL_law 409 = .ok (.invokestatic 73, 3) := by decide +kernel
theorem dL_law_412 : decode cL_law 412 = .ok (.iconst 1, 1) := by decide +kernel
theorem dL_law_413 : decode cL_law 413 = .ok (.if_icmp .ne 7, 3) := by decide +kernel
theorem dL_law_416 : decode cL_law 416 = .ok (.iconst 1, 1) := by decide +kernel
theorem dL_law_417 : decode cL_law 417 = .ok (.goto 19, 3) := by decide +kernel
theorem dL_law_420 : decode cL_law 420 = .ok (.iconst 0, 1) := by decide +kernel
theorem dL_law_421 : decode cL_law 421 = .ok (.goto 15, 3) := by decide +kernel
theorem dL_law_424 : decode cL_law 424 = .ok (.iload 12, 2) := by decide +kernel
theorem dL_law_426 : decode cL_law 426 = .ok (.ldc 23, 2) := by decide +kernel
theorem dL_law_428 : decode cL_law 428 = .ok (.if_icmp .ne 7, 3) := by decide +kernel
theorem dL_law_431 : decode cL_law 431 = .ok (.iconst 1, 1) := by decide +kernel
theorem dL_law_432 : decode cL_law 432 = .ok (.goto 4, 3) := by decide +kernel
theorem dL_law_435 : decode cL_law 435 = .ok (.iconst 0, 1) := by decide +kernel
theorem dL_law_436 : decode cL_law 436 = .ok (.istore_n 2, 1) := by decide +kernel
theorem dL_law_437 : decode cL_law 437 = .ok (.goto 214, 3) := by decide +kernel
theorem dL_law_440 : decode cL_law 440 = .ok (.aload_n 1, 1) := by decide +kernel
theorem dL_law_441 : decode cL_law 441 = .ok (.iload 7, 2) := by decide +kernel
theorem dL_law_443 : decode cL_law 443 = .ok (.iconst 4, 1) := by decide +kernel
theorem dL_law_444 : decode cL_law 444 = .ok (.invokestatic 73, 3) := by decide +kernel
theorem dL_law_447 : decode cL_law 447 = .ok (.iconst 1, 1) := by decide +kernel
theorem dL_law_448 : decode cL_law 448 = .ok (.if_icmp .ne 7, 3) := by decide +kernel
theorem dL_law_451 : decode cL_law 451 = .ok (.iconst 1, 1) := by decide +kernel
theorem dL_law_452 : decode cL_law 452 = .ok (.goto 4, 3) := by decide +kernel
theorem dL_law_455 : decode cL_law 455 = .ok (.iconst 0, 1) := by decide +kernel
theorem dL_law_456 : decode cL_law 456 = .ok (.istore 13, 2) := by decide +kernel
theorem dL_law_458 : decode cL_law 458 = .ok (.aload_n 1, 1) := by decide +kernel
theorem dL_law_459 : decode cL_law 459 = .ok (.iload 7, 2) := by decide +kernel
theorem dL_law_461 : decode cL_law 461 = .ok (.invokestatic 129, 3) := by decide +kernel
theorem dL_law_464 : decode cL_law 464 = .ok (.istore 14, 2) := by decide +kernel
theorem dL_law_466 : decode cL_law 466 = .ok (.iload 13, 2) := by decide +kernel
theorem dL_law_468 : decode cL_law 468 = .ok (.ifCond .eq 32, 3) := by decide +kernel
theorem dL_law_471 : decode cL_law 471 = .ok (.iload 14, 2) := by decide +kernel
theorem dL_law_473 : decode cL_law 473 = .ok (.aload_n 1, 1) := by decide +kernel
theorem dL_law_474 : decode cL_law 474 = .ok (.bipush 6, 2) := by decide +kernel
theorem dL_law_476 : decode cL_law 476 = .ok (.invokestatic 68, 3) := by decide +kernel
theorem dL_law_479 : decode cL_law 479 = .ok (.if_icmp .ne 17, 3) := by decide +kernel
theorem dL_law_482 : decode cL_law 482 = .ok (.aload_n 1, 1) := by decide +kernel
theorem dL_law_483 : decode cL_law 483 = .ok (.iload 7, 2) := by decide +kernel
theorem dL_law_485 : decode cL_law 485 = .ok (.iconst 4, 1) := by decide +kernel
theorem dL_law_486 : decode cL_law 486 = .ok (.invokestatic 73, 3) := by decide +kernel
theorem dL_law_489 : decode cL_law 489 = .ok (.ifCond .ne 7, 3) := by decide +kernel
theorem dL_law_492 : decode cL_law 492 = .ok (.iconst 1, 1) := by decide +kernel
theorem dL_law_493 : decode cL_law 493 = .ok (.goto 19, 3) := by decide +kernel
theorem dL_law_496 : decode cL_law 496 = .ok (.iconst 0, 1) := by decide +kernel
theorem dL_law_497 : decode cL_law 497 = .ok (.goto 15, 3) := by decide +kernel
theorem dL_law_500 : decode cL_law 500 = .ok (.iload 14, 2) := by decide +kernel
theorem dL_law_502 : decode cL_law 502 = .ok (.ldc 23, 2) := by decide +kernel
theorem dL_law_504 : decode cL_law 504 = .ok (.if_icmp .ne 7, 3) := by decide +kernel
theorem dL_law_507 : decode cL_law 507 = .ok (.iconst 1, 1) := by decide +kernel
theorem dL_law_508 : decode cL_law 508 = .ok (.goto 4, 3) := by decide +kernel
theorem dL_law_511 : decode cL_law 511 = .ok (.iconst 0, 1) := by decide +kernel
theorem dL_law_512 : decode cL_law 512 = .ok (.istore_n 2, 1) := by decide +kernel
theorem dL_law_513 : decode cL_law 513 = .ok (.goto 138, 3) := by decide +kernel
theorem dL_law_516 : decode cL_law 516 = .ok (.aload_n 1, 1) := by decide +kernel
theorem dL_law_517 : decode cL_law 517 = .ok (.invokevirtual 101, 3) := by decide +kernel
theorem dL_law_520 : decode cL_law 520 = .ok (.istore 15, 2) := by decide +kernel
theorem dL_law_522 : decode cL_law 522 = .ok (.iload 15, 2) := by decide +kernel
theorem dL_law_524 : decode cL_law 524 = .ok (.ifCond .ge 8, 3) := by decide +kernel
theorem dL_law_527 : decode cL_law 527 = .ok (.ldc 16, 2) := by decide +kernel
theorem dL_law_529 : decode cL_law 529 = .ok (.goto 9, 3) := by decide +kernel
theorem dL_law_532 : decode cL_law 532 = .ok (.aload_n 1, 1) := by decide +kernel
theorem dL_law_533 : decode cL_law 533 = .ok (.iload 15, 2) := by decide +kernel
theorem dL_law_535 : decode cL_law 535 = .ok (.invokestatic 85, 3) := by decide +kernel
theorem dL_law_538 : decode cL_law 538 = .ok (.istore 16, 2) := by decide +kernel
theorem dL_law_540 : decode cL_law 540 = .ok (.aload_n 1, 1) := by decide +kernel
theorem dL_law_541 : decode cL_law 541 = .ok (.invokestatic 132, 3) := by decide +kernel
theorem dL_law_544 : decode cL_law 544 = .ok (.iload 16, 2) := by decide +kernel
theorem dL_law_546 : decode cL_law 546 = .ok (.if_icmp .ne 7, 3) := by decide +kernel
theorem dL_law_549 : decode cL_law 549 = .ok (.iconst 1, 1) := by decide +kernel
theorem dL_law_550 : decode cL_law 550 = .ok (.goto 4, 3) := by decide +kernel
theorem dL_law_553 : decode cL_law 553 = .ok (.iconst 0, 1) := by decide +kernel
theorem dL_law_554 : decode cL_law 554 = .ok (.istore_n 2, 1) := by decide +kernel
theorem dL_law_555 : decode cL_law 555 = .ok (.goto 96, 3) := by decide +kernel
theorem dL_law_558 : decode cL_law 558 = .ok (.aload_n 1, 1) := by decide +kernel
theorem dL_law_559 : decode cL_law 559 = .ok (.iload 5, 2) := by decide +kernel
theorem dL_law_561 : decode cL_law 561 = .ok (.iconst 4, 1) := by decide +kernel
theorem dL_law_562 : decode cL_law 562 = .ok (.irem, 1) := by decide +kernel
theorem dL_law_563 : decode cL_law 563 = .ok (.iconst 1, 1) := by decide +kernel
theorem dL_law_564 : decode cL_law 564 = .ok (.iload 5, 2) := by decide +kernel
theorem dL_law_566 : decode cL_law 566 = .ok (.bipush 8, 2) := by decide +kernel
theorem dL_law_568 : decode cL_law 568 = .ok (.idiv, 1) := by decide +kernel
theorem dL_law_569 : decode cL_law 569 = .ok (.sipush 250, 3) := by decide +kernel
theorem dL_law_572 : decode cL_law 572 = .ok (.irem, 1) := by decide +kernel
theorem dL_law_573 : decode cL_law 573 = .ok (.iadd, 1) := by decide +kernel
theorem dL_law_574 : decode cL_law 574 = .ok (.invokestatic 136, 3) := by decide +kernel
theorem dL_law_577 : decode cL_law 577 = .ok (.istore_n 2, 1) := by decide +kernel
theorem dL_law_578 : decode cL_law 578 = .ok (.goto 73, 3) := by decide +kernel
theorem dL_law_581 : decode cL_law 581 = .ok (.aload_n 1, 1) := by decide +kernel
theorem dL_law_582 : decode cL_law 582 = .ok (.iconst 1, 1) := by decide +kernel
theorem dL_law_583 : decode cL_law 583 = .ok (.invokestatic 68, 3) := by decide +kernel
theorem dL_law_586 : decode cL_law 586 = .ok (.istore 17, 2) := by decide +kernel
theorem dL_law_588 : decode cL_law 588 = .ok (.iload 5, 2) := by decide +kernel
theorem dL_law_590 : decode cL_law 590 = .ok (.iload 6, 2) := by decide +kernel
theorem dL_law_592 : decode cL_law 592 = .ok (.irem, 1) := by decide +kernel
theorem dL_law_593 : decode cL_law 593 = .ok (.istore 18, 2) := by decide +kernel
theorem dL_law_595 : decode cL_law 595 = .ok (.aload_n 1, 1) := by decide +kernel
theorem dL_law_596 : decode cL_law 596 = .ok (.iload 18, 2) := by decide +kernel
theorem dL_law_598 : decode cL_law 598 = .ok (.iload 18, 2) := by decide +kernel
theorem dL_law_600 : decode cL_law 600 = .ok (.iconst 1, 1) := by decide +kernel
theorem dL_law_601 : decode cL_law 601 = .ok (.iadd, 1) := by decide +kernel
theorem dL_law_602 : decode cL_law 602 = .ok (.iload 5, 2) := by decide +kernel
theorem dL_law_604 : decode cL_law 604 = .ok (.bipush 8, 2) := by decide +kernel
theorem dL_law_606 : decode cL_law 606 = .ok (.idiv, 1) := by decide +kernel
theorem dL_law_607 : decode cL_law 607 = .ok (.iload 6, 2) := by decide +kernel
theorem dL_law_609 : decode cL_law 609 = .ok (.iconst 1, 1) := by decide +kernel
theorem dL_law_610 : decode cL_law 610 = .ok (.isub, 1) := by decide +kernel
theorem dL_law_611 : decode cL_law 611 = .ok (.irem, 1) := by decide +kernel
theorem dL_law_612 : decode cL_law 612 = .ok (.iadd, 1) := by decide +kernel
theorem dL_law_613 : decode cL_law 613 = .ok (.iload 6, 2) := by decide +kernel
theorem dL_law_615 : decode cL_law 615 = .ok (.irem, 1) := by decide +kernel
theorem dL_law_616 : decode cL_law 616 = .ok (.iconst 1, 1) := by decide +kernel
theorem dL_law_617 : decode cL_law 617 = .ok (.iload 5, 2) := by decide +kernel
theorem dL_law_619 : decode cL_law 619 = .ok (.bipush 64, 2) := by decide +kernel
theorem dL_law_621 : decode cL_law 621 = .ok (.idiv, 1) := by decide +kernel
theorem dL_law_622 : decode cL_law 622 = .ok (.sipush 300, 3) := by decide +kernel
theorem dL_law_625 : decode cL_law 625 = .ok (.irem, 1) := by decide +kernel
theorem dL_law_626 : decode cL_law 626 = .ok (.iadd, 1) := by decide +kernel
theorem dL_law_627 : decode cL_law 627 = .ok (.iconst 1, 1) := by decide +kernel
theorem dL_law_628 : decode cL_law 628 = .ok (.iload 5, 2) := by decide +kernel
theorem dL_law_630 : decode cL_law 630 = .ok (.ldc 118, 2) := by decide +kernel
theorem dL_law_632 : decode cL_law 632 = .ok (.idiv, 1) := by decide +kernel
theorem dL_law_633 : decode cL_law 633 = .ok (.bipush 9, 2) := by decide +kernel
theorem dL_law_635 : decode cL_law 635 = .ok (.irem, 1) := by decide +kernel
theorem dL_law_636 : decode cL_law 636 = .ok (.iadd, 1) := by decide +kernel
theorem dL_law_637 : decode cL_law 637 = .ok (.invokestatic 119, 3) := by decide +kernel
theorem dL_law_640 : decode cL_law 640 = .ok (.iload 17, 2) := by decide +kernel
theorem dL_law_642 : decode cL_law 642 = .ok (.if_icmp .ne 7, 3) := by decide +kernel
theorem dL_law_645 : decode cL_law 645 = .ok (.iconst 1, 1) := by decide +kernel
theorem dL_law_646 : decode cL_law 646 = .ok (.goto 4, 3) := by decide +kernel
theorem dL_law_649 : decode cL_law 649 = .ok (.iconst 0, 1) := by decide +kernel
theorem dL_law_650 : decode cL_law 650 = .ok (.istore_n 2, 1) := by decide +kernel
theorem dL_law_651 : decode cL_law 651 = .ok (.iload_n 2, 1) := by decide +kernel
theorem dL_law_652 : decode cL_law 652 = .ok (.ifCond .eq 14, 3) := by decide +kernel
theorem dL_law_655 : decode cL_law 655 = .ok (.aload_n 1, 1) := by decide +kernel
theorem dL_law_656 : decode cL_law 656 = .ok (.invokestatic 108, 3) := by decide +kernel
theorem dL_law_659 : decode cL_law 659 = .ok (.ifCond .eq 7, 3) := by decide +kernel
theorem dL_law_662 : decode cL_law 662 = .ok (.iconst 1, 1) := by decide +kernel
theorem dL_law_663 : decode cL_law 663 = .ok (.goto 4, 3) := by decide +kernel
theorem dL_law_666 : decode cL_law 666 = .ok (.iconst 0, 1) := by decide +kernel
theorem dL_law_667 : decode cL_law 667 = .ok (.istore_n 2, 1) := by decide +kernel
theorem dL_law_668 : decode cL_law 668 = .ok (.iinc 3 1, 3) := by decide +kernel
theorem dL_law_671 : decode cL_law 671 = .ok (.goto (-536), 3) := by decide +kernel
theorem dL_law_674 : decode cL_law 674 = .ok (.aload_n 1, 1) := by decide +kernel
theorem dL_law_675 : decode cL_law 675 = .ok (.invokevirtual 140, 3) := by decide +kernel
theorem dL_law_678 : decode cL_law 678 = .ok (.lstore_n 3, 1) := by decide +kernel
theorem dL_law_679 : decode cL_law 679 = .ok (.iload_n 2, 1) := by decide +kernel
theorem dL_law_680 : decode cL_law 680 = .ok (.ifCond .eq 82, 3) := by decide +kernel
theorem dL_law_683 : decode cL_law 683 = .ok (.aload_n 1, 1) := by decide +kernel
theorem dL_law_684 : decode cL_law 684 = .ok (.bipush 8, 2) := by decide +kernel
theorem dL_law_686 : decode cL_law 686 = .ok (.invokestatic 115, 3) := by decide +kernel
theorem dL_law_689 : decode cL_law 689 = .ok (.ldc 16, 2) := by decide +kernel
theorem dL_law_691 : decode cL_law 691 = .ok (.if_icmp .ne 71, 3) := by decide +kernel
theorem dL_law_694 : decode cL_law 694 = .ok (.aload_n 1, 1) := by decide +kernel
theorem dL_law_695 : decode cL_law 695 = .ok (.iconst 0, 1) := by decide +kernel
theorem dL_law_696 : decode cL_law 696 = .ok (.bipush 7, 2) := by decide +kernel
theorem dL_law_698 : decode cL_law 698 = .ok (.iconst 0, 1) := by decide +kernel
theorem dL_law_699 : decode cL_law 699 = .ok (.iconst 0, 1) := by decide +kernel
theorem dL_law_700 : decode cL_law 700 = .ok (.invokestatic 119, 3) := by decide +kernel
theorem dL_law_703 : decode cL_law 703 = .ok (.ldc 16, 2) := by decide +kernel
theorem dL_law_705 : decode cL_law 705 = .ok (.if_icmp .ne 57, 3) := by decide +kernel
theorem dL_law_708 : decode cL_law 708 = .ok (.aload_n 1, 1) := by decide +kernel
theorem dL_law_709 : decode cL_law 709 = .ok (.iconst 0, 1) := by decide +kernel
theorem dL_law_710 : decode cL_law 710 = .ok (.iconst 0, 1) := by decide +kernel
theorem dL_law_711 : decode cL_law 711 = .ok (.iconst 1, 1) := by decide +kernel
theorem dL_law_712 : decode cL_law 712 = .ok (.iconst 1, 1) := by decide +kernel
theorem dL_law_713 : decode cL_law 713 = .ok (.invokestatic 119, 3) := by decide +kernel
theorem dL_law_716 : decode cL_law 716 = .ok (.ldc 23, 2) := by decide +kernel
theorem dL_law_718 : decode cL_law 718 = .ok (.if_icmp .ne 44, 3) := by decide +kernel
theorem dL_law_721 : decode cL_law 721 = .ok (.aload_n 1, 1) := by decide +kernel
theorem dL_law_722 : decode cL_law 722 = .ok (.iconst 0, 1) := by decide +kernel
theorem dL_law_723 : decode cL_law 723 = .ok (.iconst 1, 1) := by decide +kernel
theorem dL_law_724 : decode cL_law 724 = .ok (.sipush 1001, 3) := by decide +kernel
theorem dL_law_727 : decode cL_law 727 = .ok (.iconst 1, 1) := by decide +kernel
theorem dL_law_728 : decode cL_law 728 = .ok (.invokestatic 119, 3) := by decide +kernel
theorem dL_law_731 : decode cL_law 731 = .ok (.ldc 23, 2) := by decide +kernel
theorem dL_law_733 : decode cL_law 733 = .ok (.if_icmp .ne 29, 3) := by decide +kernel
theorem dL_law_736 : decode cL_law 736 = .ok (.aload_n 1, 1) := by decide +kernel
theorem dL_law_737 : decode cL_law 737 = .ok (.iconst 0, 1) := by decide +kernel
theorem dL_law_738 : decode cL_law 738 = .ok (.iconst 0, 1) := by decide +kernel
theorem dL_law_739 : decode cL_law 739 = .ok (.invokestatic 123, 3) := by decide +kernel
theorem dL_law_742 : decode cL_law 742 = .ok (.ldc 23, 2) := by decide +kernel
theorem dL_law_744 : decode cL_law 744 = .ok (.if_icmp .ne 18, 3) := by decide +kernel
theorem dL_law_747 : decode cL_law 747 = .ok (.aload_n 1, 1) := by decide +kernel
theorem dL_law_748 : decode cL_law 748 = .ok (.iconst (-1), 1) := by decide +kernel
theorem dL_law_749 : decode cL_law 749 = .ok (.iconst 0, 1) := by decide +kernel
theorem dL_law_750 : decode cL_law 750 = .ok (.invokestatic 123, 3) := by decide +kernel
theorem dL_law_753 : decode cL_law 753 = .ok (.ldc 16, 2) := by decide +kernel
theorem dL_law_755 : decode cL_law 755 = .ok (.if_icmp .ne 7, 3) := by decide +kernel
theorem dL_law_758 : decode cL_law 758 = .ok (.iconst 1, 1) := by decide +kernel
theorem dL_law_759 : decode cL_law 759 = .ok (.goto 4, 3) := by decide +kernel
theorem dL_law_762 : decode cL_law 762 = .ok (.iconst 0, 1) := by decide +kernel
theorem dL_law_763 : decode cL_law 763 = .ok (.istore_n 2, 1) := by decide +kernel
theorem dL_law_764 : decode cL_law 764 = .ok (.iload_n 2, 1) := by decide +kernel
theorem dL_law_765 : decode cL_law 765 = .ok (.ifCond .eq 41, 3) := by decide +kernel
theorem dL_law_768 : decode cL_law 768 = .ok (.aload_n 1, 1) := by decide +kernel
theorem dL_law_769 : decode cL_law 769 = .ok (.sipush 2365, 3) := by decide +kernel
theorem dL_law_772 : decode cL_law 772 = .ok (.iconst 0, 1) := by decide +kernel
theorem dL_law_773 : decode cL_law 773 = .ok (.invokestatic 104, 3) := by decide +kernel
theorem dL_law_776 : decode cL_law 776 = .ok (.ldc 16, 2) := by decide +kernel
theorem dL_law_778 : decode cL_law 778 = .ok (.if_icmp .ne 28, 3) := by decide +kernel
theorem dL_law_781 : decode cL_law 781 = .ok (.aload_n 1, 1) := by decide +kernel
theorem dL_law_782 : decode cL_law 782 = .ok (.iconst 0, 1) := by decide +kernel
theorem dL_law_783 : decode cL_law 783 = .ok (.bipush 7, 2) := by decide +kernel
theorem dL_law_785 : decode cL_law 785 = .ok (.invokestatic 80, 3) := by decide +kernel
theorem dL_law_788 : decode cL_law 788 = .ok (.ldc 144, 2) := by decide +kernel
theorem dL_law_790 : decode cL_law 790 = .ok (.if_icmp .ge 16, 3) := by decide +kernel
theorem dL_law_793 : decode cL_law 793 = .ok (.aload_n 1, 1) := by decide +kernel
theorem dL_law_794 : decode cL_law 794 = .ok (.invokevirtual 140, 3) := by decide +kernel
theorem dL_law_797 : decode cL_law 797 = .ok (.lload_n 3, 1) := by decide +kernel
theorem dL_law_798 : decode cL_law 798 = .ok (.lcmp, 1) := by decide +kernel
theorem dL_law_799 : decode cL_law 799 = .ok (.ifCond .ne 7, 3) := by decide +kernel
theorem dL_law_802 : decode cL_law 802 = .ok (.iconst 1, 1) := by decide +kernel
theorem dL_law_803 : decode cL_law 803 = .ok (.goto 4, 3) := by decide +kernel
theorem dL_law_806 : decode cL_law 806 = .ok (.iconst 0, 1) := by decide +kernel
theorem dL_law_807 : decode cL_law 807 = .ok (.istore_n 2, 1) := by decide +kernel
theorem dL_law_808 : decode cL_law 808 = .ok (.aload_n 1, 1) := by decide +kernel
theorem dL_law_809 : decode cL_law 809 = .ok (.iconst 1, 1) := by decide +kernel
theorem dL_law_810 : decode cL_law 810 = .ok (.invokestatic 68, 3) := by decide +kernel
theorem dL_law_813 : decode cL_law 813 = .ok (.istore 5, 2) := by decide +kernel
theorem dL_law_815 : decode cL_law 815 = .ok (.iload_n 2, 1) := by decide +kernel
theorem dL_law_816 : decode cL_law 816 = .ok (.ifCond .eq 50, 3) := by decide +kernel
theorem dL_law_819 : decode cL_law 819 = .ok (.aload_n 1, 1) := by decide +kernel
theorem dL_law_820 : decode cL_law 820 = .ok (.iconst 2, 1) := by decide +kernel
theorem dL_law_821 : decode cL_law 821 = .ok (.invokestatic 115, 3) := by decide +kernel
theorem dL_law_824 : decode cL_law 824 = .ok (.iload 5, 2) := by decide +kernel
theorem dL_law_826 : decode cL_law 826 = .ok (.if_icmp .ne 40, 3) := by decide +kernel
theorem dL_law_829 : decode cL_law 829 = .ok (.aload_n 1, 1) := by decide +kernel
theorem dL_law_830 : decode cL_law 830 = .ok (.bipush 9, 2) := by decide +kernel
theorem dL_law_832 : decode cL_law 832 = .ok (.invokestatic 68, 3) := by decide +kernel
theorem dL_law_835 : decode cL_law 835 = .ok (.ifCond .ne 31, 3) := by decide +kernel
theorem dL_law_838 : decode cL_law 838 = .ok (.aload_n 1, 1) := by decide +kernel
theorem dL_law_839 : decode cL_law 839 = .ok (.invokestatic 145, 3) := by decide +kernel
theorem dL_law_842 : decode cL_law 842 = .ok (.ifCond .lt 24, 3) := by decide +kernel
theorem dL_law_845 : decode cL_law 845 = .ok (.aload_n 1, 1) := by decide +kernel
theorem dL_law_846 : decode cL_law 846 = .ok (.iconst 1, 1) := by decide +kernel
theorem dL_law_847 : decode cL_law 847 = .ok (.invokestatic 68, 3) := by decide +kernel
theorem dL_law_850 : decode cL_law 850 = .ok (.iload 5, 2) := by decide +kernel
theorem dL_law_852 : decode cL_law 852 = .ok (.if_icmp .ne 14, 3) := by decide +kernel
theorem dL_law_855 : decode cL_law 855 = .ok (.aload_n 1, 1) := by decide +kernel
theorem dL_law_856 : decode cL_law 856 = .ok (.invokestatic 108, 3) := by decide +kernel
theorem dL_law_859 : decode cL_law 859 = .ok (.ifCond .eq 7, 3) := by decide +kernel
theorem dL_law_862 : decode cL_law 862 = .ok (.iconst 1, 1) := by decide +kernel
theorem dL_law_863 : decode cL_law 863 = .ok (.goto 4, 3) := by decide +kernel
theorem dL_law_866 : decode cL_law 866 = .ok (.iconst 0, 1) := by decide +kernel
theorem dL_law_867 : decode cL_law 867 = .ok (.ireturn, 1) := by decide +kernel
