/-! decode rows (from claim/NAMES.whole.lean.txt) -/
theorem dX10_other_15 : decode cX10_other 15 = .ok (.invokevirtual 158, 3) := by decide +kernel
theorem dX10_other_18 : decode cX10_other 18 = .ok (.ifCond .eq 14, 3) := by decide +kernel
theorem dX10_other_21 : decode cX10_other 21 = .ok (.aload_n 0, 1) := by decide +kernel
theorem dX10_other_22 : decode cX10_other 22 = .ok (.getfield 26, 3) := by decide +kernel
theorem dX10_other_25 : decode cX10_other 25 = .ok (.iload_n 1, 1) := by decide +kernel
theorem dX10_other_26 : decode cX10_other 26 = .ok (.invokevirtual 176, 3) := by decide +kernel
theorem dX10_other_29 : decode cX10_other 29 = .ok (.goto 5, 3) := by decide +kernel
theorem dX10_other_32 : decode cX10_other 32 = .ok (.ldc 101, 2) := by decide +kernel
theorem dX10_other_34 : decode cX10_other 34 = .ok (.ireturn, 1) := by decide +kernel
theorem dX10_car_0 : decode cX10_car 0 = .ok (.iload_n 1, 1) := by decide +kernel
theorem dX10_car_1 : decode cX10_car 1 = .ok (.iconst 0, 1) := by decide +kernel
theorem dX10_car_2 : decode cX10_car 2 = .ok (.iconst 1, 1) := by decide +kernel
theorem dX10_car_3 : decode cX10_car 3 = .ok (.invokestatic 51, 3) := by decide +kernel
theorem dX10_car_6 : decode cX10_car 6 = .ok (.ifCond .eq 6, 3) := by decide +kernel
theorem dX10_car_9 : decode cX10_car 9 = .ok (.ldc 75, 2) := by decide +kernel
theorem dX10_car_11 : decode cX10_car 11 = .ok (.ireturn, 1) := by decide +kernel
theorem dX10_car_12 : decode cX10_car 12 = .ok (.iload_n 2, 1) := by decide +kernel
theorem dX10_car_13 : decode cX10_car 13 = .ok (.iconst 1, 1) := by decide +kernel
theorem dX10_car_14 : decode cX10_car 14 = .ok (.sipush 3000, 3) := by decide +kernel
theorem dX10_car_17 : decode cX10_car 17 = .ok (.invokestatic 51, 3) := by decide +kernel
theorem dX10_car_20 : decode cX10_car 20 = .ok (.ifCond .eq 6, 3) := by decide +kernel
theorem dX10_car_23 : decode cX10_car 23 = .ok (.ldc 55, 2) := by decide +kernel
theorem dX10_car_25 : decode cX10_car 25 = .ok (.ireturn, 1) := by decide +kernel
theorem dX10_car_26 : decode cX10_car 26 = .ok (.aload_n 0, 1) := by decide +kernel
theorem dX10_car_27 : decode cX10_car 27 = .ok (.getfield 33, 3) := by decide +kernel
theorem dX10_car_30 : decode cX10_car 30 = .ok (.getfield 179, 3) := by decide +kernel
theorem dX10_car_33 : decode cX10_car 33 = .ok (.iload_n 1, 1) := by decide +kernel
theorem dX10_car_34 : decode cX10_car 34 = .ok (.iaload, 1) := by decide +kernel
theorem dX10_car_35 : decode cX10_car 35 = .ok (.istore_n 3, 1) := by decide +kernel
theorem dX10_car_36 : decode cX10_car 36 = .ok (.aload_n 0, 1) := by decide +kernel
theorem dX10_car_37 : decode cX10_car 37 = .ok (.getfield 33, 3) := by decide +kernel
theorem dX10_car_40 : decode cX10_car 40 = .ok (.getfield 179, 3) := by decide +kernel
theorem dX10_car_43 : decode cX10_car 43 = .ok (.iload_n 1, 1) := by decide +kernel
theorem dX10_car_44 : decode cX10_car 44 = .ok (.iload_n 2, 1) := by decide +kernel
theorem dX10_car_45 : decode cX10_car 45 = .ok (.iastore, 1) := by decide +kernel
theorem dX10_car_46 : decode cX10_car 46 = .ok (.aload_n 0, 1) := by decide +kernel
theorem dX10_car_47 : decode cX10_car 47 = .ok (.getfield 33, 3) := by decide +kernel
theorem dX10_car_50 : decode cX10_car 50 = .ok (.iconst 1, 1) := by decide +kernel
theorem dX10_car_51 : decode cX10_car 51 = .ok (.putfield 124, 3) := by decide +kernel
theorem dX10_car_54 : decode cX10_car 54 = .ok (.iload_n 3, 1) := by decide +kernel
theorem dX10_car_55 : decode cX10_car 55 = .ok (.ireturn, 1) := by decide +kernel
theorem dX10_packing_0 : decode cX10_packing 0 = .ok (.aload_n 0, 1) := by decide +kernel
theorem dX10_packing_1 : decode cX10_packing 1 = .ok (.invokevirtual 182, 3) := by decide +kernel
theorem dX10_packing_4 : decode cX10_packing 4 = .ok (.aload_n 0, 1) := by decide +kernel
theorem dX10_packing_5 : decode cX10_packing 5 = .ok (.getfield 33, 3) := by decide +kernel
theorem dX10_packing_8 : decode cX10_packing 8 = .ok (.getfield 185, 3) := by decide +kernel
theorem dX10_packing_11 : decode cX10_packing 11 = .ok (.ireturn, 1) := by decide +kernel
theorem dX10_carOf_0 : decode cX10_carOf 0 = .ok (.aload_n 0, 1) := by decide +kernel
theorem dX10_carOf_1 : decode cX10_carOf 1 = .ok (.getfield 10, 3) := by decide +kernel
theorem dX10_carOf_4 : decode cX10_carOf 4 = .ok (.iload_n 1, 1) := by decide +kernel
theorem dX10_carOf_5 : decode cX10_carOf 5 = .ok (.invokevirtual 71, 3) := by decide +kernel
theorem dX10_carOf_8 : decode cX10_carOf 8 = .ok (.ifCond .ne 6, 3) := by decide +kernel
theorem dX10_carOf_11 : decode cX10_carOf 11 = .ok (.ldc 75, 2) := by decide +kernel
theorem dX10_carOf_13 : decode cX10_carOf 13 = .ok (.ireturn, 1) := by decide +kernel
theorem dX10_carOf_14 : decode cX10_carOf 14 = .ok (.aload_n 0, 1) := by decide +kernel
theorem dX10_carOf_15 : decode cX10_carOf 15 = .ok (.invokevirtual 182, 3) := by decide +kernel
theorem dX10_carOf_18 : decode cX10_carOf 18 = .ok (.aload_n 0, 1) := by decide +kernel
theorem dX10_carOf_19 : decode cX10_carOf 19 = .ok (.getfield 33, 3) := by decide +kernel
theorem dX10_carOf_22 : decode cX10_carOf 22 = .ok (.getfield 185, 3) := by decide +kernel
theorem dX10_carOf_25 : decode cX10_carOf 25 = .ok (.ldc 101, 2) := by decide +kernel
theorem dX10_carOf_27 : decode cX10_carOf 27 = .ok (.if_icmp .ne 8, 3) := by decide +kernel
theorem dX10_carOf_30 : decode cX10_carOf 30 = .ok (.ldc 101, 2) := by decide +kernel
theorem dX10_carOf_32 : decode cX10_carOf 32 = .ok (.goto 14, 3) := by decide +kernel
theorem dX10_carOf_35 : decode cX10_carOf 35 = .ok (.aload_n 0, 1) := by decide +kernel
theorem dX10_carOf_36 : decode cX10_carOf 36 = .ok (.getfield 33, 3) := by decide +kernel
theorem dX10_carOf_39 : decode cX10_carOf 39 = .ok (.getfield 188, 3) := by decide +kernel
theorem dX10_carOf_42 : decode cX10_carOf 42 = .ok (.iload_n 1, 1) := by decide +kernel
theorem dX10_carOf_43 : decode cX10_carOf 43 = .ok (.ishr, 1) := by decide +kernel
theorem dX10_carOf_44 : decode cX10_carOf 44 = .ok (.iconst 1, 1) := by decide +kernel
theorem dX10_carOf_45 : decode cX10_carOf 45 = .ok (.iand, 1) := by decide +kernel
theorem dX10_carOf_46 : decode cX10_carOf 46 = .ok (.ireturn, 1) := by decide +kernel
theorem dX10_turned_0 : decode cX10_turned 0 = .ok (.iload_n 1, 1) := by decide +kernel
theorem dX10_turned_1 : decode cX10_turned 1 = .ok (.iconst 1, 1) := by decide +kernel
theorem dX10_turned_2 : decode cX10_turned 2 = .ok (.aload_n 0, 1) := by decide +kernel
theorem dX10_turned_3 : decode cX10_turned 3 = .ok (.getfield 10, 3) := by decide +kernel
theorem dX10_turned_6 : decode cX10_turned 6 = .ok (.getfield 60, 3) := by decide +kernel
theorem dX10_turned_9 : decode cX10_turned 9 = .ok (.ishl, 1) := by decide +kernel
theorem dX10_turned_10 : decode cX10_turned 10 = .ok (.iconst 1, 1) := by decide +kernel
theorem dX10_turned_11 : decode cX10_turned 11 = .ok (.isub, 1) := by decide +kernel
theorem dX10_turned_12 : decode cX10_turned 12 = .ok (.iconst (-1), 1) := by decide +kernel
theorem dX10_turned_13 : decode cX10_turned 13 = .ok (.ixor, 1) := by decide +kernel
theorem dX10_turned_14 : decode cX10_turned 14 = .ok (.iand, 1) := by decide +kernel
theorem dX10_turned_15 : decode cX10_turned 15 = .ok (.ifCond .eq 6, 3) := by decide +kernel
theorem dX10_turned_18 : decode cX10_turned 18 = .ok (.ldc 55, 2) := by decide +kernel
theorem dX10_turned_20 : decode cX10_turned 20 = .ok (.ireturn, 1) := by decide +kernel
theorem dX10_turned_21 : decode cX10_turned 21 = .ok (.aload_n 0, 1) := by decide +kernel
theorem dX10_turned_22 : decode cX10_turned 22 = .ok (.invokevirtual 182, 3) := by decide +kernel
theorem dX10_turned_25 : decode cX10_turned 25 = .ok (.aload_n 0, 1) := by decide +kernel
theorem dX10_turned_26 : decode cX10_turned 26 = .ok (.getfield 33, 3) := by decide +kernel
theorem dX10_turned_29 : decode cX10_turned 29 = .ok (.iload_n 1, 1) := by decide +kernel
theorem dX10_turned_30 : decode cX10_turned 30 = .ok (.invokevirtual 191, 3) := by decide +kernel
theorem dX10_turned_33 : decode cX10_turned 33 = .ok (.ireturn, 1) := by decide +kernel
theorem dX10_report_0 : decode cX10_report 0 = .ok (.iload_n 1, 1) := by decide +kernel
theorem dX10_report_1 : decode cX10_report 1 = .ok (.iconst 0, 1) := by decide +kernel
theorem dX10_report_2 : decode cX10_report 2 = .ok (.iconst 3, 1) := by decide +kernel
theorem dX10_report_3 : decode cX10_report 3 = .ok (.invokestatic 51, 3) := by decide +kernel
theorem dX10_report_6 : decode cX10_report 6 = .ok (.ifCond .ne 31, 3) := by decide +kernel
theorem dX10_report_9 : decode cX10_report 9 = .ok (.iload_n 2, 1) := by decide +kernel
theorem dX10_report_10 : decode cX10_report 10 = .ok (.iconst 0, 1) := by decide +kernel
theorem dX10_report_11 : decode cX10_report 11 = .ok (.iconst 3, 1) := by decide +kernel
theorem dX10_report_12 : decode cX10_report 12 = .ok (.invokestatic 51, 3) := by decide +kernel
theorem dX10_report_15 : decode cX10_report 15 = .ok (.ifCond .ne 22, 3) := by decide +kernel
theorem dX10_report_18 : decode cX10_report 18 = .ok (.iload_n 3, 1) := by decide +kernel
theorem dX10_report_19 : decode cX10_report 19 = .ok (.iconst 0, 1) := by decide +kernel
theorem dX10_report_20 : decode cX10_report 20 = .ok (.iconst 3, 1) := by decide +kernel
theorem dX10_report_21 : decode cX10_report 21 = .ok (.invokestatic 51, 3) := by decide +kernel
theorem dX10_report_24 : decode cX10_report 24 = .ok (.ifCond .ne 13, 3) := by decide +kernel
theorem dX10_report_27 : decode cX10_report 27 = .ok (.iload 4, 2) := by decide +kernel
theorem dX10_report_29 : decode cX10_report 29 = .ok (.iconst 0, 1) := by decide +kernel
theorem dX10_report_30 : decode cX10_report 30 = .ok (.iconst 3, 1) := by decide +kernel
theorem dX10_report_31 : decode cX10_report 31 = .ok (.invokestatic 51, 3) := by decide +kernel
theorem dX10_report_34 : decode cX10_report 34 = .ok (.ifCond .eq 6, 3) := by decide +kernel
theorem dX10_report_37 : decode cX10_report 37 = .ok (.ldc 55, 2) := by decide +kernel
theorem dX10_report_39 : decode cX10_report 39 = .ok (.ireturn, 1) := by decide +kernel
theorem dX10_report_40 : decode cX10_report 40 = .ok (.aload_n 0, 1) := by decide +kernel
theorem dX10_report_41 : decode cX10_report 41 = .ok (.getfield 40, 3) := by decide +kernel
theorem dX10_report_44 : decode cX10_report 44 = .ok (.getfield 194, 3) := by decide +kernel
theorem dX10_report_47 : decode cX10_report 47 = .ok (.bipush 40, 2) := by decide +kernel
theorem dX10_report_49 : decode cX10_report 49 = .ok (.if_icmp .lt 6, 3) := by decide +kernel
theorem dX10_report_52 : decode cX10_report 52 = .ok (.ldc 63, 2) := by decide +kernel
theorem dX10_report_54 : decode cX10_report 54 = .ok (.ireturn, 1) := by decide +kernel
theorem dX10_report_55 : decode cX10_report 55 = .ok (.aload_n 0, 1) := by decide +kernel
theorem dX10_report_56 : decode cX10_report 56 = .ok (.getfield 40, 3) := by decide +kernel
theorem dX10_report_59 : decode cX10_report 59 = .ok (.iload_n 1, 1) := by decide +kernel
theorem dX10_report_60 : decode cX10_report 60 = .ok (.iload_n 2, 1) := by decide +kernel
theorem dX10_report_61 : decode cX10_report 61 = .ok (.iload_n 3, 1) := by decide +kernel
theorem dX10_report_62 : decode cX10_report 62 = .ok (.iload 4, 2) := by decide +kernel
theorem dX10_report_64 : decode cX10_report 64 = .ok (.iload 5, 2) := by decide +kernel
theorem dX10_report_66 : decode cX10_report 66 = .ok (.invokevirtual 197, 3) := by decide +kernel
theorem dX10_report_69 : decode cX10_report 69 = .ok (.ireturn, 1) := by decide +kernel
theorem dX10_sure_0 : decode cX10_sure 0 = .ok (.iload_n 1, 1) := by decide +kernel
theorem dX10_sure_1 : decode cX10_sure 1 = .ok (.iconst 0, 1) := by decide +kernel
theorem dX10_sure_2 : decode cX10_sure 2 = .ok (.bipush 100, 2) := by decide +kernel
theorem dX10_sure_4 : decode cX10_sure 4 = .ok (.invokestatic 51, 3) := by decide +kernel
theorem dX10_sure_7 : decode cX10_sure 7 = .ok (.ifCond .eq 6, 3) := by decide +kernel
theorem dX10_sure_10 : decode cX10_sure 10 = .ok (.ldc 55, 2) := by decide +kernel
theorem dX10_sure_12 : decode cX10_sure 12 = .ok (.ireturn, 1) := by decide +kernel
theorem dX10_sure_13 : decode cX10_sure 13 = .ok (.aload_n 0, 1) := by decide +kernel
theorem dX10_sure_14 : decode cX10_sure 14 = .ok (.getfield 40, 3) := by decide +kernel
theorem dX10_sure_17 : decode cX10_sure 17 = .ok (.getfield 201, 3) := by decide +kernel
theorem dX10_sure_20 : decode cX10_sure 20 = .ok (.istore_n 2, 1) := by decide +kernel
theorem dX10_sure_21 : decode cX10_sure 21 = .ok (.aload_n 0, 1) := by decide +kernel
theorem dX10_sure_22 : decode cX10_sure 22 = .ok (.getfield 40, 3) := by decide +kernel
theorem dX10_sure_25 : decode cX10_sure 25 = .ok (.iload_n 1, 1) := by decide +kernel
theorem dX10_sure_26 : decode cX10_sure 26 = .ok (.putfield 201, 3) := by decide +kernel
theorem dX10_sure_29 : decode cX10_sure 29 = .ok (.aload_n 0, 1) := by decide +kernel
theorem dX10_sure_30 : decode cX10_sure 30 = .ok (.getfield 40, 3) := by decide +kernel
theorem dX10_sure_33 : decode cX10_sure 33 = .ok (.iconst 1, 1) := by decide +kernel
theorem dX10_sure_34 : decode cX10_sure 34 = .ok (.putfield 204, 3) := by decide +kernel
theorem dX10_sure_37 : decode cX10_sure 37 = .ok (.iload_n 2, 1) := by decide +kernel
theorem dX10_sure_38 : decode cX10_sure 38 = .ok (.ireturn, 1) := by decide +kernel
theorem dX10_explains_0 : decode cX10_explains 0 = .ok (.iload_n 1, 1) := by decide +kernel
theorem dX10_explains_1 : decode cX10_explains 1 = .ok (.iconst 0, 1) := by decide +kernel
theorem dX10_explains_2 : decode cX10_explains 2 = .ok (.bipush 15, 2) := by decide +kernel
theorem dX10_explains_4 : decode cX10_explains 4 = .ok (.invokestatic 51, 3) := by decide +kernel
theorem dX10_explains_7 : decode cX10_explains 7 = .ok (.ifCond .eq 6, 3) := by decide +kernel
theorem dX10_explains_10 : decode cX10_explains 10 = .ok (.ldc 55, 2) := by decide +kernel
theorem dX10_explains_12 : decode cX10_explains 12 = .ok (.ireturn, 1) := by decide +kernel
theorem dX10_explains_13 : decode cX10_explains 13 = .ok (.iload_n 2, 1) := by decide +kernel
theorem dX10_explains_14 : decode cX10_explains 14 = .ok (.ifCond .eq 14, 3) := by decide +kernel
theorem dX10_explains_17 : decode cX10_explains 17 = .ok (.aload_n 0, 1) := by decide +kernel
theorem dX10_explains_18 : decode cX10_explains 18 = .ok (.getfield 40, 3) := by decide +kernel
theorem dX10_explains_21 : decode cX10_explains 21 = .ok (.iload_n 1, 1) := by decide +kernel
theorem dX10_explains_22 : decode cX10_explains 22 = .ok (.invokevirtual 205, 3) := by decide +kernel
theorem dX10_explains_25 : decode cX10_explains 25 = .ok (.goto 11, 3) := by decide +kernel
theorem dX10_explains_28 : decode cX10_explains 28 = .ok (.aload_n 0, 1) := by decide +kernel
theorem dX10_explains_29 : decode cX10_explains 29 = .ok (.getfield 40, 3) := by decide +kernel
theorem dX10_explains_32 : decode cX10_explains 32 = .ok (.iload_n 1, 1) := by decide +kernel
theorem dX10_explains_33 : decode cX10_explains 33 = .ok (.invokevirtual 208, 3) := by decide +kernel
theorem dX10_explains_36 : decode cX10_explains 36 = .ok (.ireturn, 1) := by decide +kernel
theorem dX10_likely_0 : decode cX10_likely 0 = .ok (.iload_n 1, 1) := by decide +kernel
theorem dX10_likely_1 : decode cX10_likely 1 = .ok (.iconst 0, 1) := by decide +kernel
theorem dX10_likely_2 : decode cX10_likely 2 = .ok (.bipush 15, 2) := by decide +kernel
theorem dX10_likely_4 : decode cX10_likely 4 = .ok (.invokestatic 51, 3) := by decide +kernel
theorem dX10_likely_7 : decode cX10_likely 7 = .ok (.ifCond .eq 6, 3) := by decide +kernel
theorem dX10_likely_10 : decode cX10_likely 10 = .ok (.ldc 55, 2) := by decide +kernel
theorem dX10_likely_12 : decode cX10_likely 12 = .ok (.ireturn, 1) := by decide +kernel
theorem dX10_likely_13 : decode cX10_likely 13 = .ok (.aload_n 0, 1) := by decide +kernel
theorem dX10_likely_14 : decode cX10_likely 14 = .ok (.getfield 40, 3) := by decide +kernel
theorem dX10_likely_17 : decode cX10_likely 17 = .ok (.iload_n 1, 1) := by decide +kernel
theorem dX10_likely_18 : decode cX10_likely 18 = .ok (.invokevirtual 211, 3) := by decide +kernel
theorem dX10_likely_21 : decode cX10_likely 21 = .ok (.ifCond .eq 7, 3) := by decide +kernel
theorem dX10_likely_24 : decode cX10_likely 24 = .ok (.iconst 1, 1) := by decide +kernel
theorem dX10_likely_25 : decode cX10_likely 25 = .ok (.goto 4, 3) := by decide +kernel
theorem dX10_likely_28 : decode cX10_likely 28 = .ok (.iconst 0, 1) := by decide +kernel
theorem dX10_likely_29 : decode cX10_likely 29 = .ok (.ireturn, 1) := by decide +kernel
theorem dX10_causes_0 : decode cX10_causes 0 = .ok (.aload_n 0, 1) := by decide +kernel
theorem dX10_causes_1 : decode cX10_causes 1 = .ok (.getfield 40, 3) := by decide +kernel
theorem dX10_causes_4 : decode cX10_causes 4 = .ok (.invokevirtual 214, 3) := by decide +kernel
theorem dX10_causes_7 : decode cX10_causes 7 = .ok (.aload_n 0, 1) := by decide +kernel
theorem dX10_causes_8 : decode cX10_causes 8 = .ok (.getfield 40, 3) := by decide +kernel
theorem dX10_causes_11 : decode cX10_causes 11 = .ok (.getfield 217, 3) := by decide +kernel
theorem dX10_causes_14 : decode cX10_causes 14 = .ok (.ireturn, 1) := by decide +kernel
theorem dX10_cause_0 : decode cX10_cause 0 = .ok (.aload_n 0, 1) := by decide +kernel
theorem dX10_cause_1 : decode cX10_cause 1 = .ok (.getfield 40, 3) := by decide +kernel
theorem dX10_cause_4 : decode cX10_cause 4 = .ok (.invokevirtual 214, 3) := by decide +kernel
theorem dX10_cause_7 : decode cX10_cause 7 = .ok (.iload_n 1, 1) := by decide +kernel
theorem dX10_cause_8 : decode cX10_cause 8 = .ok (.iconst 0, 1) := by decide +kernel
theorem dX10_cause_9 : decode cX10_cause 9 = .ok (.aload_n 0, 1) := by decide +kernel
theorem dX10_cause_10 : decode cX10_cause 10 = .ok (.getfield 40, 3) := by decide +kernel
theorem dX10_cause_13 : decode cX10_cause 13 = .ok (.getfield 217, 3) := by decide +kernel
theorem dX10_cause_16 : decode cX10_cause 16 = .ok (.iconst 1, 1) := by decide +kernel
theorem dX10_cause_17 : decode cX10_cause 17 = .ok (.isub, 1) := by decide +kernel
theorem dX10_cause_18 : decode cX10_cause 18 = .ok (.invokestatic 51, 3) := by decide +kernel
theorem dX10_cause_21 : decode cX10_cause 21 = .ok (.ifCond .eq 8, 3) := by decide +kernel
theorem dX10_cause_24 : decode cX10_cause 24 = .ok (.ldc 101, 2) := by decide +kernel
theorem dX10_cause_26 : decode cX10_cause 26 = .ok (.goto 12, 3) := by decide +kernel
theorem dX10_cause_29 : decode cX10_cause 29 = .ok (.aload_n 0, 1) := by decide +kernel
theorem dX10_cause_30 : decode cX10_cause 30 = .ok (.getfield 40, 3) := by decide +kernel
theorem dX10_cause_33 : decode cX10_cause 33 = .ok (.getfield 218, 3) := by decide +kernel
theorem dX10_cause_36 : decode cX10_cause 36 = .ok (.iload_n 1, 1) := by decide +kernel
theorem dX10_cause_37 : decode cX10_cause 37 = .ok (.iaload, 1) := by decide +kernel
theorem dX10_cause_38 : decode cX10_cause 38 = .ok (.ireturn, 1) := by decide +kernel
theorem dX10_pass_0 : decode cX10_pass 0 = .ok (.iload_n 1, 1) := by decide +kernel
theorem dX10_pass_1 : decode cX10_pass 1 = .ok (.iconst 1, 1) := by decide +kernel
theorem dX10_pass_2 : decode cX10_pass 2 = .ok (.bipush 60, 2) := by decide +kernel
theorem dX10_pass_4 : decode cX10_pass 4 = .ok (.invokestatic 51, 3) := by decide +kernel
theorem dX10_pass_7 : decode cX10_pass 7 = .ok (.ifCond .eq 6, 3) := by decide +kernel
theorem dX10_pass_10 : decode cX10_pass 10 = .ok (.ldc 55, 2) := by decide +kernel
theorem dX10_pass_12 : decode cX10_pass 12 = .ok (.ireturn, 1) := by decide +kernel
theorem dX10_pass_13 : decode cX10_pass 13 = .ok (.aload_n 0, 1) := by decide +kernel
theorem dX10_pass_14 : decode cX10_pass 14 = .ok (.getfield 47, 3) := by decide +kernel
theorem dX10_pass_17 : decode cX10_pass 17 = .ok (.getfield 221, 3) := by decide +kernel
theorem dX10_pass_20 : decode cX10_pass 20 = .ok (.iload_n 1, 1) := by decide +kernel
theorem dX10_pass_21 : decode cX10_pass 21 = .ok (.iadd, 1) := by decide +kernel
theorem dX10_pass_22 : decode cX10_pass 22 = .ok (.sipush 599, 3) := by decide +kernel
theorem dX10_pass_25 : decode cX10_pass 25 = .ok (.if_icmp .le 6, 3) := by decide +kernel
theorem dX10_pass_28 : decode cX10_pass 28 = .ok (.ldc 63, 2) := by decide +kernel
theorem dX10_pass_30 : decode cX10_pass 30 = .ok (.ireturn, 1) := by decide +kernel
theorem dX10_pass_31 : decode cX10_pass 31 = .ok (.iconst 0, 1) := by decide +kernel
theorem dX10_pass_32 : decode cX10_pass 32 = .ok (.istore_n 2, 1) := by decide +kernel
theorem dX10_pass_33 : decode cX10_pass 33 = .ok (.iload_n 2, 1) := by decide +kernel
theorem dX10_pass_34 : decode cX10_pass 34 = .ok (.iload_n 1, 1) := by decide +kernel
theorem dX10_pass_35 : decode cX10_pass 35 = .ok (.if_icmp .ge 16, 3) := by decide +kernel
theorem dX10_pass_38 : decode cX10_pass 38 = .ok (.aload_n 0, 1) := by decide +kernel
theorem dX10_pass_39 : decode cX10_pass 39 = .ok (.getfield 47, 3) := by decide +kernel
theorem dX10_pass_42 : decode cX10_pass 42 = .ok (.invokevirtual 224, 3) := by decide +kernel
theorem dX10_pass_45 : decode cX10_pass 45 = .ok (.iinc 2 1, 3) := by decide +kernel
theorem dX10_pass_48 : decode cX10_pass 48 = .ok (.goto (-15), 3) := by decide +kernel
theorem dX10_pass_51 : decode cX10_pass 51 = .ok (.aload_n 0, 1) := by decide +kernel
theorem dX10_pass_52 : decode cX10_pass 52 = .ok (.getfield 47, 3) := by decide +kernel
theorem dX10_pass_55 : decode cX10_pass 55 = .ok (.getfield 221, 3) := by decide +kernel
theorem dX10_pass_58 : decode cX10_pass 58 = .ok (.ireturn, 1) := by decide +kernel
theorem dX10_loan_0 : decode cX10_loan 0 = .ok (.iload_n 1, 1) := by decide +kernel
theorem dX10_loan_1 : decode cX10_loan 1 = .ok (.iconst 1, 1) := by decide +kernel
theorem dX10_loan_2 : decode cX10_loan 2 = .ok (.ldc 227, 2) := by decide +kernel
theorem dX10_loan_4 : decode cX10_loan 4 = .ok (.invokestatic 51, 3) := by decide +kernel
theorem dX10_loan_7 : decode cX10_loan 7 = .ok (.ifCond .ne 24, 3) := by decide +kernel
theorem dX10_loan_10 : decode cX10_loan 10 = .ok (.iload_n 2, 1) := by decide +kernel
theorem dX10_loan_11 : decode cX10_loan 11 = .ok (.iconst 0, 1) := by decide +kernel
theorem dX10_loan_12 : decode cX10_loan 12 = .ok (.bipush 50, 2) := by decide +kernel
theorem dX10_loan_14 : decode cX10_loan 14 = .ok (.invokestatic 51, 3) := by decide +kernel
theorem dX10_loan_17 : decode cX10_loan 17 = .ok (.ifCond .ne 14, 3) := by decide +kernel
theorem dX10_loan_20 : decode cX10_loan 20 = .ok (.iload_n 3, 1) := by decide +kernel
theorem dX10_loan_21 : decode cX10_loan 21 = .ok (.iconst 1, 1) := by decide +kernel
theorem dX10_loan_22 : decode cX10_loan 22 = .ok (.sipush 10000, 3) := by decide +kernel
theorem dX10_loan_25 : decode cX10_loan 25 = .ok (.invokestatic 51, 3) := by decide +kernel
theorem dX10_loan_28 : decode cX10_loan 28 = .ok (.ifCond .eq 6, 3) := by decide +kernel
theorem dX10_loan_31 : decode cX10_loan 31 = .ok (.ldc 55, 2) := by decide +kernel
theorem dX10_loan_33 : decode cX10_loan 33 = .ok (.ireturn, 1) := by decide +kernel
theorem dX10_loan_34 : decode cX10_loan 34 = .ok (.aload_n 0, 1) := by decide +kernel
theorem dX10_loan_35 : decode cX10_loan 35 = .ok (.getfield 47, 3) := by decide +kernel
theorem dX10_loan_38 : decode cX10_loan 38 = .ok (.getfield 228, 3) := by decide +kernel
theorem dX10_loan_41 : decode cX10_loan 41 = .ok (.bipush 8, 2) := by decide +kernel
theorem dX10_loan_43 : decode cX10_loan 43 = .ok (.if_icmp .lt 6, 3) := by decide +kernel
theorem dX10_loan_46 : decode cX10_loan 46 = .ok (.ldc 63, 2) := by decide +kernel
theorem dX10_loan_48 : decode cX10_loan 48 = .ok (.ireturn, 1) := by decide +kernel
theorem dX10_loan_49 : decode cX10_loan 49 = .ok (.aload_n 0, 1) := by decide +kernel
theorem dX10_loan_50 : decode cX10_loan 50 = .ok (.getfield 47, 3) := by decide +kernel
theorem dX10_loan_53 : decode cX10_loan 53 = .ok (.iload_n 1, 1) := by decide +kernel
theorem dX10_loan_54 : decode cX10_loan 54 = .ok (.iload_n 2, 1) := by decide +kernel
theorem dX10_loan_55 : decode cX10_loan 55 = .ok (.iload_n 3, 1) := by decide +kernel
theorem dX10_loan_56 : decode cX10_loan 56 = .ok (.invokevirtual 231, 3) := by decide +kernel
theorem dX10_loan_59 : decode cX10_loan 59 = .ok (.ireturn, 1) := by decide +kernel
theorem dX10_pay_0 : decode cX10_pay 0 = .ok (.aload_n 0, 1) := by decide +kernel
theorem dX10_pay_1 : decode cX10_pay 1 = .ok (.getfield 47, 3) := by decide +kernel
theorem dX10_pay_4 : decode cX10_pay 4 = .ok (.iload_n 1, 1) := by decide +kernel
theorem dX10_pay_5 : decode cX10_pay 5 = .ok (.invokevirtual 235, 3) := by decide +kernel
theorem dX10_pay_8 : decode cX10_pay 8 = .ok (.astore_n 3, 1) := by decide +kernel
theorem dX10_pay_9 : decode cX10_pay 9 = .ok (.aload_n 3, 1) := by decide +kernel
theorem dX10_pay_10 : decode cX10_pay 10 = .ok (.ifnonnull 6, 3) := by decide +kernel
theorem dX10_pay_13 : decode cX10_pay 13 = .ok (.ldc 75, 2) := by decide +kernel
theorem dX10_pay_15 : decode cX10_pay 15 = .ok (.ireturn, 1) := by decide +kernel
theorem dX10_pay_16 : decode cX10_pay 16 = .ok (.iload_n 2, 1) := by decide +kernel
theorem dX10_pay_17 : decode cX10_pay 17 = .ok (.iconst 1, 1) := by decide +kernel
theorem dX10_pay_18 : decode cX10_pay 18 = .ok (.ldc 227, 2) := by decide +kernel
theorem dX10_pay_20 : decode cX10_pay 20 = .ok (.invokestatic 51, 3) := by decide +kernel
theorem dX10_pay_23 : decode cX10_pay 23 = .ok (.ifCond .eq 6, 3) := by decide +kernel
theorem dX10_pay_26 : decode cX10_pay 26 = .ok (.ldc 55, 2) := by decide +kernel
theorem dX10_pay_28 : decode cX10_pay 28 = .ok (.ireturn, 1) := by decide +kernel
theorem dX10_pay_29 : decode cX10_pay 29 = .ok (.aload_n 3, 1) := by decide +kernel
theorem dX10_pay_30 : decode cX10_pay 30 = .ok (.invokevirtual 239, 3) := by decide +kernel
theorem dX10_pay_33 : decode cX10_pay 33 = .ok (.ifCond .eq 18, 3) := by decide +kernel
theorem dX10_pay_36 : decode cX10_pay 36 = .ok (.aload_n 3, 1) := by decide +kernel
theorem dX10_pay_37 : decode cX10_pay 37 = .ok (.iload_n 2, 1) := by decide +kernel
theorem dX10_pay_38 : decode cX10_pay 38 = .ok (.aload_n 0, 1) := by decide +kernel
theorem dX10_pay_39 : decode cX10_pay 39 = .ok (.getfield 47, 3) := by decide +kernel
theorem dX10_pay_42 : decode cX10_pay 42 = .ok (.getfield 221, 3) := by decide +kernel
theorem dX10_pay_45 : decode cX10_pay 45 = .ok (.invokevirtual 244, 3) := by decide +kernel
theorem dX10_pay_48 : decode cX10_pay 48 = .ok (.goto 5, 3) := by decide +kernel
theorem dX10_pay_51 : decode cX10_pay 51 = .ok (.ldc 90, 2) := by decide +kernel
theorem dX10_pay_53 : decode cX10_pay 53 = .ok (.ireturn, 1) := by decide +kernel
theorem dX10_work_0 : decode cX10_work 0 = .ok (.aload_n 0, 1) := by decide +kernel
theorem dX10_work_1 : decode cX10_work 1 = .ok (.getfield 47, 3) := by decide +kernel
theorem dX10_work_4 : decode cX10_work 4 = .ok (.iload_n 1, 1) := by decide +kernel
theorem dX10_work_5 : decode cX10_work 5 = .ok (.invokevirtual 235, 3) := by decide +kernel
theorem dX10_work_8 : decode cX10_work 8 = .ok (.astore_n 3, 1) := by decide +kernel
theorem dX10_work_9 : decode cX10_work 9 = .ok (.aload_n 3, 1) := by decide +kernel
theorem dX10_work_10 : decode cX10_work 10 = .ok (.ifnonnull 6, 3) := by decide +kernel
theorem dX10_work_13 : decode cX10_work 13 = .ok (.ldc 75, 2) := by decide +kernel
theorem dX10_work_15 : decode cX10_work 15 = .ok (.ireturn, 1) := by decide +kernel
theorem dX10_work_16 : decode cX10_work 16 = .ok (.aload_n 3, 1) := by decide +kernel
theorem dX10_work_17 : decode cX10_work 17 = .ok (.getfield 247, 3) := by decide +kernel
theorem dX10_work_20 : decode cX10_work 20 = .ok (.getfield 251, 3) := by decide +kernel
theorem dX10_work_23 : decode cX10_work 23 = .ok (.ifCond .eq 7, 3) := by decide +kernel
theorem dX10_work_26 : decode cX10_work 26 = .ok (.iconst 1, 1) := by decide +kernel
theorem dX10_work_27 : decode cX10_work 27 = .ok (.goto 4, 3) := by decide +kernel
theorem dX10_work_30 : decode cX10_work 30 = .ok (.iconst 0, 1) := by decide +kernel
theorem dX10_work_31 : decode cX10_work 31 = .ok (.istore 4, 2) := by decide +kernel
theorem dX10_work_33 : decode cX10_work 33 = .ok (.aload_n 3, 1) := by decide +kernel
theorem dX10_work_34 : decode cX10_work 34 = .ok (.getfield 247, 3) := by decide +kernel
theorem dX10_work_37 : decode cX10_work 37 = .ok (.iload_n 2, 1) := by decide +kernel
theorem dX10_work_38 : decode cX10_work 38 = .ok (.putfield 251, 3) := by decide +kernel
theorem dX10_work_41 : decode cX10_work 41 = .ok (.iload 4, 2) := by decide +kernel
theorem dX10_work_43 : decode cX10_work 43 = .ok (.ireturn, 1) := by decide +kernel
theorem dX10_as_0 : decode cX10_as 0 = .ok (.aload_n 0, 1) := by decide +kernel
theorem dX10_as_1 : decode cX10_as 1 = .ok (.getfield 47, 3) := by decide +kernel
theorem dX10_as_4 : decode cX10_as 4 = .ok (.iload_n 1, 1) := by decide +kernel
theorem dX10_as_5 : decode cX10_as 5 = .ok (.invokevirtual 235, 3) := by decide +kernel
theorem dX10_as_8 : decode cX10_as 8 = .ok (.astore 4, 2) := by decide +kernel
theorem dX10_as_10 : decode cX10_as 10 = .ok (.aload 4, 2) := by decide +kernel
theorem dX10_as_12 : decode cX10_as 12 = .ok (.ifnonnull 7, 3) := by decide +kernel
theorem dX10_as_15 : decode cX10_as 15 = .ok (.ldc2_w 256, 3) := by decide +kernel
theorem dX10_as_18 : decode cX10_as 18 = .ok (.lreturn, 1) := by decide +kernel
theorem dX10_as_19 : decode cX10_as 19 = .ok (.iload_n 2, 1) := by decide +kernel
theorem dX10_as_20 : decode cX10_as 20 = .ok (.iconst 0, 1) := by decide +kernel
theorem dX10_as_21 : decode cX10_as 21 = .ok (.aload_n 0, 1) := by decide +kernel
theorem dX10_as_22 : decode cX10_as 22 = .ok (.getfield 47, 3) := by decide +kernel
theorem dX10_as_25 : decode cX10_as 25 = .ok (.getfield 221, 3) := by decide +kernel
theorem dX10_as_28 : decode cX10_as 28 = .ok (.invokestatic 51, 3) := by decide +kernel
theorem dX10_as_31 : decode cX10_as 31 = .ok (.ifCond .eq 7, 3) := by decide +kernel
theorem dX10_as_34 : decode cX10_as 34 = .ok (.ldc2_w 258, 3) := by decide +kernel
theorem dX10_as_37 : decode cX10_as 37 = .ok (.lreturn, 1) := by decide +kernel
theorem dX10_as_38 : decode cX10_as 38 = .ok (.iload_n 3, 1) := by decide +kernel
theorem dX10_as_39 : decode cX10_as 39 = .ok (.tableswitch 47 0 2 #[25, 32, 39], 25) := by decide +kernel
theorem dX10_as_64 : decode cX10_as 64 = .ok (.aload 4, 2) := by decide +kernel
theorem dX10_as_66 : decode cX10_as 66 = .ok (.iload_n 2, 1) := by decide +kernel
theorem dX10_as_67 : decode cX10_as 67 = .ok (.invokevirtual 260, 3) := by decide +kernel
theorem dX10_as_70 : decode cX10_as 70 = .ok (.lreturn, 1) := by decide +kernel
theorem dX10_as_71 : decode cX10_as 71 = .ok (.aload 4, 2) := by decide +kernel
theorem dX10_as_73 : decode cX10_as 73 = .ok (.iload_n 2, 1) := by decide +kernel
theorem dX10_as_74 : decode cX10_as 74 = .ok (.invokevirtual 264, 3) := by decide +kernel
theorem dX10_as_77 : decode cX10_as 77 = .ok (.lreturn, 1) := by decide +kernel
theorem dX10_as_78 : decode cX10_as 78 = .ok (.aload 4, 2) := by decide +kernel
theorem dX10_as_80 : decode cX10_as 80 = .ok (.iload_n 2, 1) := by decide +kernel
theorem dX10_as_81 : decode cX10_as 81 = .ok (.invokevirtual 267, 3) := by decide +kernel
theorem dX10_as_84 : decode cX10_as 84 = .ok (.i2l, 1) := by decide +kernel
theorem dX10_as_85 : decode cX10_as 85 = .ok (.lreturn, 1) := by decide +kernel
theorem dX10_as_86 : decode cX10_as 86 = .ok (.ldc2_w 258, 3) := by decide +kernel
theorem dX10_as_89 : decode cX10_as 89 = .ok (.lreturn, 1) := by decide +kernel
theorem dX10_arrears_0 : decode cX10_arrears 0 = .ok (.aload_n 0, 1) := by decide +kernel
theorem dX10_arrears_1 : decode cX10_arrears 1 = .ok (.getfield 47, 3) := by decide +kernel
theorem dX10_arrears_4 : decode cX10_arrears 4 = .ok (.iload_n 1, 1) := by decide +kernel
theorem dX10_arrears_5 : decode cX10_arrears 5 = .ok (.invokevirtual 235, 3) := by decide +kernel
theorem dX10_arrears_8 : decode cX10_arrears 8 = .ok (.astore_n 2, 1) := by decide +kernel
theorem dX10_arrears_9 : decode cX10_arrears 9 = .ok (.aload_n 2, 1) := by decide +kernel
theorem dX10_arrears_10 : decode cX10_arrears 10 = .ok (.ifnonnull 8, 3) := by decide +kernel
theorem dX10_arrears_13 : decode cX10_arrears 13 = .ok (.ldc 75, 2) := by decide +kernel
theorem dX10_arrears_15 : decode cX10_arrears 15 = .ok (.goto 11, 3) := by decide +kernel
theorem dX10_arrears_18 : decode cX10_arrears 18 = .ok (.aload_n 2, 1) := by decide +kernel
theorem dX10_arrears_19 : decode cX10_arrears 19 = .ok (.getfield 247, 3) := by decide +kernel
theorem dX10_arrears_22 : decode cX10_arrears 22 = .ok (.invokevirtual 270, 3) := by decide +kernel
theorem dX10_arrears_25 : decode cX10_arrears 25 = .ok (.l2i, 1) := by decide +kernel
theorem dX10_arrears_26 : decode cX10_arrears 26 = .ok (.ireturn, 1) := by decide +kernel
theorem dX10_term_0 : decode cX10_term 0 = .ok (.iload_n 1, 1) := by decide +kernel
theorem dX10_term_1 : decode cX10_term 1 = .ok (.iconst 0, 1) := by decide +kernel
theorem dX10_term_2 : decode cX10_term 2 = .ok (.sipush 599, 3) := by decide +kernel
theorem dX10_term_5 : decode cX10_term 5 = .ok (.invokestatic 51, 3) := by decide +kernel
theorem dX10_term_8 : decode cX10_term 8 = .ok (.ifCond .eq 6, 3) := by decide +kernel
theorem dX10_term_11 : decode cX10_term 11 = .ok (.ldc 55, 2) := by decide +kernel
theorem dX10_term_13 : decode cX10_term 13 = .ok (.ireturn, 1) := by decide +kernel
theorem dX10_term_14 : decode cX10_term 14 = .ok (.aload_n 0, 1) := by decide +kernel
theorem dX10_term_15 : decode cX10_term 15 = .ok (.getfield 47, 3) := by decide +kernel
theorem dX10_term_18 : decode cX10_term 18 = .ok (.getfield 274, 3) := by decide +kernel
theorem dX10_term_21 : decode cX10_term 21 = .ok (.iconst 4, 1) := by decide +kernel
theorem dX10_term_22 : decode cX10_term 22 = .ok (.if_icmp .lt 8, 3) := by decide +kernel
theorem dX10_term_25 : decode cX10_term 25 = .ok (.ldc 63, 2) := by decide +kernel
theorem dX10_term_27 : decode cX10_term 27 = .ok (.goto 11, 3) := by decide +kernel
theorem dX10_term_30 : decode cX10_term 30 = .ok (.aload_n 0, 1) := by decide +kernel
theorem dX10_term_31 : decode cX10_term 31 = .ok (.getfield 47, 3) := by decide +kernel
theorem dX10_term_34 : decode cX10_term 34 = .ok (.iload_n 1, 1) := by decide +kernel
theorem dX10_term_35 : decode cX10_term 35 = .ok (.invokevirtual 277, 3) := by decide +kernel
theorem dX10_term_38 : decode cX10_term 38 = .ok (.ireturn, 1) := by decide +kernel
theorem dX10_feed_0 : decode cX10_feed 0 = .ok (.aload_n 0, 1) := by decide +kernel
theorem dX10_feed_1 : decode cX10_feed 1 = .ok (.getfield 47, 3) := by decide +kernel
theorem dX10_feed_4 : decode cX10_feed 4 = .ok (.iload_n 1, 1) := by decide +kernel
theorem dX10_feed_5 : decode cX10_feed 5 = .ok (.invokevirtual 280, 3) := by decide +kernel
theorem dX10_feed_8 : decode cX10_feed 8 = .ok (.astore 4, 2) := by decide +kernel
theorem dX10_feed_10 : decode cX10_feed 10 = .ok (.aload 4, 2) := by decide +kernel
theorem dX10_feed_12 : decode cX10_feed 12 = .ok (.ifnonnull 6, 3) := by decide +kernel
theorem dX10_feed_15 : decode cX10_feed 15 = .ok (.ldc 75, 2) := by decide +kernel
theorem dX10_feed_17 : decode cX10_feed 17 = .ok (.ireturn, 1) := by decide +kernel
theorem dX10_feed_18 : decode cX10_feed 18 = .ok (.aload 4, 2) := by decide +kernel
theorem dX10_feed_20 : decode cX10_feed 20 = .ok (.lload_n 2, 1) := by decide +kernel
theorem dX10_feed_21 : decode cX10_feed 21 = .ok (.invokevirtual 284, 3) := by decide +kernel
theorem dX10_feed_24 : decode cX10_feed 24 = .ok (.ifCond .eq 11, 3) := by decide +kernel
theorem dX10_feed_27 : decode cX10_feed 27 = .ok (.aload 4, 2) := by decide +kernel
theorem dX10_feed_29 : decode cX10_feed 29 = .ok (.getfield 290, 3) := by decide +kernel
theorem dX10_feed_32 : decode cX10_feed 32 = .ok (.goto 5, 3) := by decide +kernel
theorem dX10_feed_35 : decode cX10_feed 35 = .ok (.ldc 63, 2) := by decide +kernel
theorem dX10_feed_37 : decode cX10_feed 37 = .ok (.ireturn, 1) := by decide +kernel
theorem dX10_fault_0 : decode cX10_fault 0 = .ok (.aload_n 0, 1) := by decide +kernel
theorem dX10_fault_1 : decode cX10_fault 1 = .ok (.getfield 47, 3) := by decide +kernel
theorem dX10_fault_4 : decode cX10_fault 4 = .ok (.iload_n 1, 1) := by decide +kernel
theorem dX10_fault_5 : decode cX10_fault 5 = .ok (.invokevirtual 280, 3) := by decide +kernel
theorem dX10_fault_8 : decode cX10_fault 8 = .ok (.astore_n 2, 1) := by decide +kernel
theorem dX10_fault_9 : decode cX10_fault 9 = .ok (.aload_n 2, 1) := by decide +kernel
theorem dX10_fault_10 : decode cX10_fault 10 = .ok (.ifnonnull 8, 3) := by decide +kernel
theorem dX10_fault_13 : decode cX10_fault 13 = .ok (.ldc 75, 2) := by decide +kernel
theorem dX10_fault_15 : decode cX10_fault 15 = .ok (.goto 7, 3) := by decide +kernel
theorem dX10_fault_18 : decode cX10_fault 18 = .ok (.aload_n 2, 1) := by decide +kernel
theorem dX10_fault_19 : decode cX10_fault 19 = .ok (.getfield 292, 3) := by decide +kernel
theorem dX10_fault_22 : decode cX10_fault 22 = .ok (.ireturn, 1) := by decide +kernel
theorem dX10_force_0 : decode cX10_force 0 = .ok (.iload_n 1, 1) := by decide +kernel
theorem dX10_force_1 : decode cX10_force 1 = .ok (.iconst 0, 1) := by decide +kernel
theorem dX10_force_2 : decode cX10_force 2 = .ok (.sipush 599, 3) := by decide +kernel
theorem dX10_force_5 : decode cX10_force 5 = .ok (.invokestatic 51, 3) := by decide +kernel
theorem dX10_force_8 : decode cX10_force 8 = .ok (.ifCond .eq 8, 3) := by decide +kernel
theorem dX10_force_11 : decode cX10_force 11 = .ok (.ldc 55, 2) := by decide +kernel
theorem dX10_force_13 : decode cX10_force 13 = .ok (.goto 11, 3) := by decide +kernel
theorem dX10_force_16 : decode cX10_force 16 = .ok (.aload_n 0, 1) := by decide +kernel
theorem dX10_force_17 : decode cX10_force 17 = .ok (.getfield 47, 3) := by decide +kernel
theorem dX10_force_20 : decode cX10_force 20 = .ok (.iload_n 1, 1) := by decide +kernel
theorem dX10_force_21 : decode cX10_force 21 = .ok (.invokevirtual 295, 3) := by decide +kernel
theorem dX10_force_24 : decode cX10_force 24 = .ok (.ireturn, 1) := by decide +kernel
theorem dX10_may_0 : decode cX10_may 0 = .ok (.aload_n 0, 1) := by decide +kernel
theorem dX10_may_1 : decode cX10_may 1 = .ok (.getfield 47, 3) := by decide +kernel
theorem dX10_may_4 : decode cX10_may 4 = .ok (.iload_n 1, 1) := by decide +kernel
theorem dX10_may_5 : decode cX10_may 5 = .ok (.invokevirtual 235, 3) := by decide +kernel
theorem dX10_may_8 : decode cX10_may 8 = .ok (.astore_n 2, 1) := by decide +kernel
theorem dX10_may_9 : decode cX10_may 9 = .ok (.aload_n 2, 1) := by decide +kernel
theorem dX10_may_10 : decode cX10_may 10 = .ok (.ifnonnull 6, 3) := by decide +kernel
theorem dX10_may_13 : decode cX10_may 13 = .ok (.ldc 75, 2) := by decide +kernel
theorem dX10_may_15 : decode cX10_may 15 = .ok (.ireturn, 1) := by decide +kernel
theorem dX10_may_16 : decode cX10_may 16 = .ok (.aload_n 0, 1) := by decide +kernel
theorem dX10_may_17 : decode cX10_may 17 = .ok (.getfield 47, 3) := by decide +kernel
theorem dX10_may_20 : decode cX10_may 20 = .ok (.aload_n 2, 1) := by decide +kernel
theorem dX10_may_21 : decode cX10_may 21 = .ok (.invokevirtual 298, 3) := by decide +kernel
theorem dX10_may_24 : decode cX10_may 24 = .ok (.ifCond .eq 7, 3) := by decide +kernel
theorem dX10_may_27 : decode cX10_may 27 = .ok (.iconst 1, 1) := by decide +kernel
theorem dX10_may_28 : decode cX10_may 28 = .ok (.goto 4, 3) := by decide +kernel
theorem dX10_may_31 : decode cX10_may 31 = .ok (.iconst 0, 1) := by decide +kernel
theorem dX10_may_32 : decode cX10_may 32 = .ok (.ireturn, 1) := by decide +kernel
theorem dX10_takeBack_0 : decode cX10_takeBack 0 = .ok (.aload_n 0, 1) := by decide +kernel
theorem dX10_takeBack_1 : decode cX10_takeBack 1 = .ok (.getfield 47, 3) := by decide +kernel
theorem dX10_takeBack_4 : decode cX10_takeBack 4 = .ok (.iload_n 1, 1) := by decide +kernel
theorem dX10_takeBack_5 : decode cX10_takeBack 5 = .ok (.invokevirtual 235, 3) := by decide +kernel
theorem dX10_takeBack_8 : decode cX10_takeBack 8 = .ok (.astore_n 2, 1) := by decide +kernel
theorem dX10_takeBack_9 : decode cX10_takeBack 9 = .ok (.aload_n 2, 1) := by decide +kernel
theorem dX10_takeBack_10 : decode cX10_takeBack 10 = .ok (.ifnonnull 7, 3) := by decide +kernel
theorem dX10_takeBack_13 : decode cX10_takeBack 13 = .ok (.ldc2_w 256, 3) := by decide +kernel
theorem dX10_takeBack_16 : decode cX10_takeBack 16 = .ok (.lreturn, 1) := by decide +kernel
theorem dX10_takeBack_17 : decode cX10_takeBack 17 = .ok (.aload_n 0, 1) := by decide +kernel
theorem dX10_takeBack_18 : decode cX10_takeBack 18 = .ok (.getfield 47, 3) := by decide +kernel
theorem dX10_takeBack_21 : decode cX10_takeBack 21 = .ok (.aload_n 2, 1) := by decide +kernel
theorem dX10_takeBack_22 : decode cX10_takeBack 22 = .ok (.invokevirtual 298, 3) := by decide +kernel
theorem dX10_takeBack_25 : decode cX10_takeBack 25 = .ok (.ifCond .ne 7, 3) := by decide +kernel
theorem dX10_takeBack_28 : decode cX10_takeBack 28 = .ok (.ldc2_w 302, 3) := by decide +kernel
theorem dX10_takeBack_31 : decode cX10_takeBack 31 = .ok (.lreturn, 1) := by decide +kernel
theorem dX10_takeBack_32 : decode cX10_takeBack 32 = .ok (.aload_n 2, 1) := by decide +kernel
theorem dX10_takeBack_33 : decode cX10_takeBack 33 = .ok (.iconst 3, 1) := by decide +kernel
theorem dX10_takeBack_34 : decode cX10_takeBack 34 = .ok (.aload_n 0, 1) := by decide +kernel
theorem dX10_takeBack_35 : decode cX10_takeBack 35 = .ok (.getfield 47, 3) := by decide +kernel
theorem dX10_takeBack_38 : decode cX10_takeBack 38 = .ok (.getfield 221, 3) := by decide +kernel
theorem dX10_takeBack_41 : decode cX10_takeBack 41 = .ok (.invokevirtual 304, 3) := by decide +kernel
theorem dX10_takeBack_44 : decode cX10_takeBack 44 = .ok (.aload_n 2, 1) := by decide +kernel
theorem dX10_takeBack_45 : decode cX10_takeBack 45 = .ok (.getfield 247, 3) := by decide +kernel
theorem dX10_takeBack_48 : decode cX10_takeBack 48 = .ok (.getfield 308, 3) := by decide +kernel
theorem dX10_takeBack_51 : decode cX10_takeBack 51 = .ok (.lreturn, 1) := by decide +kernel
theorem dX10_soon_0 : decode cX10_soon 0 = .ok (.aload_n 0, 1) := by decide +kernel
theorem dX10_soon_1 : decode cX10_soon 1 = .ok (.getfield 47, 3) := by decide +kernel
theorem dX10_soon_4 : decode cX10_soon 4 = .ok (.iload_n 1, 1) := by decide +kernel
theorem dX10_soon_5 : decode cX10_soon 5 = .ok (.invokevirtual 235, 3) := by decide +kernel
theorem dX10_soon_8 : decode cX10_soon 8 = .ok (.astore_n 2, 1) := by decide +kernel
theorem dX10_soon_9 : decode cX10_soon 9 = .ok (.aload_n 2, 1) := by decide +kernel
theorem dX10_soon_10 : decode cX10_soon 10 = .ok (.ifnonnull 6, 3) := by decide +kernel
theorem dX10_soon_13 : decode cX10_soon 13 = .ok (.ldc 75, 2) := by decide +kernel
theorem dX10_soon_15 : decode cX10_soon 15 = .ok (.ireturn, 1) := by decide +kernel
theorem dX10_soon_16 : decode cX10_soon 16 = .ok (.aload_n 2, 1) := by decide +kernel
theorem dX10_soon_17 : decode cX10_soon 17 = .ok (.invokevirtual 239, 3) := by decide +kernel
theorem dX10_soon_20 : decode cX10_soon 20 = .ok (.ifCond .eq 14, 3) := by decide +kernel
theorem dX10_soon_23 : decode cX10_soon 23 = .ok (.aload_n 0, 1) := by decide +kernel
theorem dX10_soon_24 : decode cX10_soon 24 = .ok (.getfield 47, 3) := by decide +kernel
theorem dX10_soon_27 : decode cX10_soon 27 = .ok (.aload_n 2, 1) := by decide +kernel
theorem dX10_soon_28 : decode cX10_soon 28 = .ok (.invokevirtual 312, 3) := by decide +kernel
theorem dX10_soon_31 : decode cX10_soon 31 = .ok (.goto 5, 3) := by decide +kernel
theorem dX10_soon_34 : decode cX10_soon 34 = .ok (.ldc 90, 2) := by decide +kernel
theorem dX10_soon_36 : decode cX10_soon 36 = .ok (.ireturn, 1) := by decide +kernel
theorem dX10_count_0 : decode cX10_count 0 = .ok (.iload_n 1, 1) := by decide +kernel
theorem dX10_count_1 : decode cX10_count 1 = .ok (.tableswitch 111 0 7 #[47, 55, 63, 71, 79, 87, 95, 103], 47) := by decide +kernel
theorem dX10_count_48 : decode cX10_count 48 = .ok (.aload_n 0, 1) := by decide +kernel
theorem dX10_count_49 : decode cX10_count 49 = .ok (.getfield 10, 3) := by decide +kernel
theorem dX10_count_52 : decode cX10_count 52 = .ok (.getfield 60, 3) := by decide +kernel
theorem dX10_count_55 : decode cX10_count 55 = .ok (.ireturn, 1) := by decide +kernel
theorem dX10_count_56 : decode cX10_count 56 = .ok (.aload_n 0, 1) := by decide +kernel
theorem dX10_count_57 : decode cX10_count 57 = .ok (.getfield 10, 3) := by decide +kernel
theorem dX10_count_60 : decode cX10_count 60 = .ok (.getfield 91, 3) := by decide +kernel
theorem dX10_count_63 : decode cX10_count 63 = .ok (.ireturn, 1) := by decide +kernel
theorem dX10_count_64 : decode cX10_count 64 = .ok (.aload_n 0, 1) := by decide +kernel
theorem dX10_count_65 : decode cX10_count 65 = .ok (.getfield 40, 3) := by decide +kernel
theorem dX10_count_68 : decode cX10_count 68 = .ok (.getfield 194, 3) := by decide +kernel
theorem dX10_count_71 : decode cX10_count 71 = .ok (.ireturn, 1) := by decide +kernel
theorem dX10_count_72 : decode cX10_count 72 = .ok (.aload_n 0, 1) := by decide +kernel
theorem dX10_count_73 : decode cX10_count 73 = .ok (.getfield 47, 3) := by decide +kernel
theorem dX10_count_76 : decode cX10_count 76 = .ok (.getfield 228, 3) := by decide +kernel
theorem dX10_count_79 : decode cX10_count 79 = .ok (.ireturn, 1) := by decide +kernel
theorem dX10_count_80 : decode cX10_count 80 = .ok (.aload_n 0, 1) := by decide +kernel
theorem dX10_count_81 : decode cX10_count 81 = .ok (.getfield 47, 3) := by decide +kernel
theorem dX10_count_84 : decode cX10_count 84 = .ok (.invokevirtual 316, 3) := by decide +kernel
theorem dX10_count_87 : decode cX10_count 87 = .ok (.ireturn, 1) := by decide +kernel
theorem dX10_count_88 : decode cX10_count 88 = .ok (.aload_n 0, 1) := by decide +kernel
theorem dX10_count_89 : decode cX10_count 89 = .ok (.getfield 47, 3) := by decide +kernel
theorem dX10_count_92 : decode cX10_count 92 = .ok (.getfield 274, 3) := by decide +kernel
theorem dX10_count_95 : decode cX10_count 95 = .ok (.ireturn, 1) := by decide +kernel
theorem dX10_count_96 : decode cX10_count 96 = .ok (.aload_n 0, 1) := by decide +kernel
theorem dX10_count_97 : decode cX10_count 97 = .ok (.getfield 47, 3) := by decide +kernel
theorem dX10_count_100 : decode cX10_count 100 = .ok (.getfield 221, 3) := by decide +kernel
theorem dX10_count_103 : decode cX10_count 103 = .ok (.ireturn, 1) := by decide +kernel
theorem dX10_count_104 : decode cX10_count 104 = .ok (.aload_n 0, 1) := by decide +kernel
theorem dX10_count_105 : decode cX10_count 105 = .ok (.getfield 10, 3) := by decide +kernel
theorem dX10_count_108 : decode cX10_count 108 = .ok (.getfield 56, 3) := by decide +kernel
theorem dX10_count_111 : decode cX10_count 111 = .ok (.ireturn, 1) := by decide +kernel
theorem dX10_count_112 : decode cX10_count 112 = .ok (.ldc 55, 2) := by decide +kernel
theorem dX10_count_114 : decode cX10_count 114 = .ok (.ireturn, 1) := by decide +kernel
theorem dX10_isOutside_0 : decode cX10_isOutside 0 = .ok (.iload_n 0, 1) := by decide +kernel
theorem dX10_isOutside_1 : decode cX10_isOutside 1 = .ok (.iload_n 1, 1) := by decide +kernel
theorem dX10_isOutside_2 : decode cX10_isOutside 2 = .ok (.if_icmp .lt 8, 3) := by decide +kernel
theorem dX10_isOutside_5 : decode cX10_isOutside 5 = .ok (.iload_n 0, 1) := by decide +kernel
theorem dX10_isOutside_6 : decode cX10_isOutside 6 = .ok (.iload_n 2, 1) := by decide +kernel
theorem dX10_isOutside_7 : decode cX10_isOutside 7 = .ok (.if_icmp .le 7, 3) := by decide +kernel
theorem dX10_isOutside_10 : decode cX10_isOutside 10 = .ok (.iconst 1, 1) := by decide +kernel
theorem dX10_isOutside_11 : decode cX10_isOutside 11 = .ok (.goto 4, 3) := by decide +kernel
theorem dX10_isOutside_14 : decode cX10_isOutside 14 = .ok (.iconst 0, 1) := by decide +kernel
theorem dX10_isOutside_15 : decode cX10_isOutside 15 = .ok (.ireturn, 1) := by decide +kernel
theorem dX10_isNoStretch_0 : decode cX10_isNoStretch 0 = .ok (.iload_n 0, 1) := by decide +kernel
theorem dX10_isNoStretch_1 : decode cX10_isNoStretch 1 = .ok (.iconst 0, 1) := by decide +kernel
theorem dX10_isNoStretch_2 : decode cX10_isNoStretch 2 = .ok (.sipush 400, 3) := by decide +kernel
theorem dX10_isNoStretch_5 : decode cX10_isNoStretch 5 = .ok (.invokestatic 51, 3) := by decide +kernel
theorem dX10_isNoStretch_8 : decode cX10_isNoStretch 8 = .ok (.ifCond .ne 13, 3) := by decide +kernel
theorem dX10_isNoStretch_11 : decode cX10_isNoStretch 11 = .ok (.iload_n 1, 1) := by decide +kernel
theorem dX10_isNoStretch_12 : decode cX10_isNoStretch 12 = .ok (.iconst 1, 1) := by decide +kernel
theorem dX10_isNoStretch_13 : decode cX10_isNoStretch 13 = .ok (.bipush 100, 2) := by decide +kernel
theorem dX10_isNoStretch_15 : decode cX10_isNoStretch 15 = .ok (.invokestatic 51, 3) := by decide +kernel
theorem dX10_isNoStretch_18 : decode cX10_isNoStretch 18 = .ok (.ifCond .eq 7, 3) := by decide +kernel
theorem dX10_isNoStretch_21 : decode cX10_isNoStretch 21 = .ok (.iconst 1, 1) := by decide +kernel
theorem dX10_isNoStretch_22 : decode cX10_isNoStretch 22 = .ok (.goto 4, 3) := by decide +kernel
theorem dX10_isNoStretch_25 : decode cX10_isNoStretch 25 = .ok (.iconst 0, 1) := by decide +kernel
theorem dX10_isNoStretch_26 : decode cX10_isNoStretch 26 = .ok (.ireturn, 1) := by decide +kernel
theorem dX10_forgetLengths_0 : decode cX10_forgetLengths 0 = .ok (.aload_n 0, 1) := by decide +kernel
theorem dX10_forgetLengths_1 : decode cX10_forgetLengths 1 = .ok (.getfield 26, 3) := by decide +kernel
theorem dX10_forgetLengths_4 : decode cX10_forgetLengths 4 = .ok (.iconst 1, 1) := by decide +kernel
theorem dX10_forgetLengths_5 : decode cX10_forgetLengths 5 = .ok (.putfield 154, 3) := by decide +kernel
theorem dX10_forgetLengths_8 : decode cX10_forgetLengths 8 = .ok (.aload_n 0, 1) := by decide +kernel
theorem dX10_forgetLengths_9 : decode cX10_forgetLengths 9 = .ok (.getfield 33, 3) := by decide +kernel
theorem dX10_forgetLengths_12 : decode cX10_forgetLengths 12 = .ok (.iconst 1, 1) := by decide +kernel
theorem dX10_forgetLengths_13 : decode cX10_forgetLengths 13 = .ok (.putfield 124, 3) := by decide +kernel
theorem dX10_forgetLengths_16 : decode cX10_forgetLengths 16 = .ok (.return_, 1) := by decide +kernel
theorem dX10_isCut_0 : decode cX10_isCut 0 = .ok (.aload_n 0, 1) := by decide +kernel
theorem dX10_isCut_1 : decode cX10_isCut 1 = .ok (.getfield 26, 3) := by decide +kernel
theorem dX10_isCut_4 : decode cX10_isCut 4 = .ok (.getfield 154, 3) := by decide +kernel
theorem dX10_isCut_7 : decode cX10_isCut 7 = .ok (.ifCond .eq 32, 3) := by decide +kernel
theorem dX10_isCut_10 : decode cX10_isCut 10 = .ok (.aload_n 0, 1) := by decide +kernel
theorem dX10_isCut_11 : decode cX10_isCut 11 = .ok (.getfield 26, 3) := by decide +kernel
theorem dX10_isCut_14 : decode cX10_isCut 14 = .ok (.aload_n 0, 1) := by decide +kernel
theorem dX10_isCut_15 : decode cX10_isCut 15 = .ok (.getfield 10, 3) := by decide +kernel
theorem dX10_isCut_18 : decode cX10_isCut 18 = .ok (.getfield 60, 3) := by decide +kernel
theorem dX10_isCut_21 : decode cX10_isCut 21 = .ok (.aload_n 0, 1) := by decide +kernel
theorem dX10_isCut_22 : decode cX10_isCut 22 = .ok (.getfield 10, 3) := by decide +kernel
theorem dX10_isCut_25 : decode cX10_isCut 25 = .ok (.getfield 80, 3) := by decide +kernel
theorem dX10_isCut_28 : decode cX10_isCut 28 = .ok (.invokevirtual 319, 3) := by decide +kernel
theorem dX10_isCut_31 : decode cX10_isCut 31 = .ok (.aload_n 0, 1) := by decide +kernel
theorem dX10_isCut_32 : decode cX10_isCut 32 = .ok (.getfield 26, 3) := by decide +kernel
theorem dX10_isCut_35 : decode cX10_isCut 35 = .ok (.iconst 0, 1) := by decide +kernel
theorem dX10_isCut_36 : decode cX10_isCut 36 = .ok (.putfield 154, 3) := by decide +kernel
theorem dX10_isCut_39 : decode cX10_isCut 39 = .ok (.aload_n 0, 1) := by decide +kernel
theorem dX10_isCut_40 : decode cX10_isCut 40 = .ok (.getfield 26, 3) := by decide +kernel
theorem dX10_isCut_43 : decode cX10_isCut 43 = .ok (.getfield 323, 3) := by decide +kernel
theorem dX10_isCut_46 : decode cX10_isCut 46 = .ok (.ireturn, 1) := by decide +kernel
theorem dX10_packIfStale_0 : decode cX10_packIfStale 0 = .ok (.aload_n 0, 1) := by decide +kernel
theorem dX10_packIfStale_1 : decode cX10_packIfStale 1 = .ok (.getfield 33, 3) := by decide +kernel
theorem dX10_packIfStale_4 : decode cX10_packIfStale 4 = .ok (.getfield 124, 3) := by decide +kernel
theorem dX10_packIfStale_7 : decode cX10_packIfStale 7 = .ok (.ifCond .eq 53, 3) := by decide +kernel
theorem dX10_packIfStale_10 : decode cX10_packIfStale 10 = .ok (.aload_n 0, 1) := by decide +kernel
theorem dX10_packIfStale_11 : decode cX10_packIfStale 11 = .ok (.getfield 19, 3) := by decide +kernel
theorem dX10_packIfStale_14 : decode cX10_packIfStale 14 = .ok (.aload_n 0, 1) := by decide +kernel
theorem dX10_packIfStale_15 : decode cX10_packIfStale 15 = .ok (.getfield 10, 3) := by decide +kernel
theorem dX10_packIfStale_18 : decode cX10_packIfStale 18 = .ok (.getfield 60, 3) := by decide +kernel
theorem dX10_packIfStale_21 : decode cX10_packIfStale 21 = .ok (.invokevirtual 132, 3) := by decide +kernel
theorem dX10_packIfStale_24 : decode cX10_packIfStale 24 = .ok (.aload_n 0, 1) := by decide +kernel
theorem dX10_packIfStale_25 : decode cX10_packIfStale 25 = .ok (.getfield 33, 3) := by decide +kernel
theorem dX10_packIfStale_28 : decode cX10_packIfStale 28 = .ok (.aload_n 0, 1) := by decide +kernel
theorem dX10_packIfStale_29 : decode cX10_packIfStale 29 = .ok (.getfield 10, 3) := by decide +kernel
theorem dX10_packIfStale_32 : decode cX10_packIfStale 32 = .ok (.getfield 60, 3) := by decide +kernel
theorem dX10_packIfStale_35 : decode cX10_packIfStale 35 = .ok (.aload_n 0, 1) := by decide +kernel
theorem dX10_packIfStale_36 : decode cX10_packIfStale 36 = .ok (.getfield 10, 3) := by decide +kernel
theorem dX10_packIfStale_39 : decode cX10_packIfStale 39 = .ok (.getfield 80, 3) := by decide +kernel
theorem dX10_packIfStale_42 : decode cX10_packIfStale 42 = .ok (.aload_n 0, 1) := by decide +kernel
theorem dX10_packIfStale_43 : decode cX10_packIfStale 43 = .ok (.getfield 19, 3) := by decide +kernel
theorem dX10_packIfStale_46 : decode cX10_packIfStale 46 = .ok (.getfield 136, 3) := by decide +kernel
theorem dX10_packIfStale_49 : decode cX10_packIfStale 49 = .ok (.invokevirtual 326, 3) := by decide +kernel
theorem dX10_packIfStale_52 : decode cX10_packIfStale 52 = .ok (.aload_n 0, 1) := by decide +kernel
theorem dX10_packIfStale_53 : decode cX10_packIfStale 53 = .ok (.getfield 33, 3) := by decide +kernel
theorem dX10_packIfStale_56 : decode cX10_packIfStale 56 = .ok (.iconst 0, 1) := by decide +kernel
theorem dX10_packIfStale_57 : decode cX10_packIfStale 57 = .ok (.putfield 124, 3) := by decide +kernel
theorem dX10_packIfStale_60 : decode cX10_packIfStale 60 = .ok (.return_, 1) := by decide +kernel
theorem dX11_init_0 : decode cX11_init 0 = .ok (.aload_n 0, 1) := by decide +kernel
theorem dX11_init_1 : decode cX11_init 1 = .ok (.invokespecial 1, 3) := by decide +kernel
theorem dX11_init_4 : decode cX11_init 4 = .ok (.aload_n 0, 1) := by decide +kernel
theorem dX11_init_5 : decode cX11_init 5 = .ok (.bipush 100, 2) := by decide +kernel
theorem dX11_init_7 : decode cX11_init 7 = .ok (.putfield 7, 3) := by decide +kernel
theorem dX11_init_10 : decode cX11_init 10 = .ok (.aload_n 0, 1) := by decide +kernel
theorem dX11_init_11 : decode cX11_init 11 = .ok (.bipush 12, 2) := by decide +kernel
theorem dX11_init_13 : decode cX11_init 13 = .ok (.newarray .int, 2) := by decide +kernel
theorem dX11_init_15 : decode cX11_init 15 = .ok (.putfield 13, 3) := by decide +kernel
theorem dX11_init_18 : decode cX11_init 18 = .ok (.aload_n 0, 1) := by decide +kernel
theorem dX11_init_19 : decode cX11_init 19 = .ok (.bipush 12, 2) := by decide +kernel
theorem dX11_init_21 : decode cX11_init 21 = .ok (.newarray .int, 2) := by decide +kernel
theorem dX11_init_23 : decode cX11_init 23 = .ok (.putfield 17, 3) := by decide +kernel
theorem dX11_init_26 : decode cX11_init 26 = .ok (.aload_n 0, 1) := by decide +kernel
theorem dX11_init_27 : decode cX11_init 27 = .ok (.bipush 12, 2) := by decide +kernel
theorem dX11_init_29 : decode cX11_init 29 = .ok (.newarray .int, 2) := by decide +kernel
theorem dX11_init_31 : decode cX11_init 31 = .ok (.putfield 20, 3) := by decide +kernel
theorem dX11_init_34 : decode cX11_init 34 = .ok (.aload_n 0, 1) := by decide +kernel
theorem dX11_init_35 : decode cX11_init 35 = .ok (.bipush 12, 2) := by decide +kernel
theorem dX11_init_37 : decode cX11_init 37 = .ok (.newarray .boolean, 2) := by decide +kernel
theorem dX11_init_39 : decode cX11_init 39 = .ok (.putfield 23, 3) := by decide +kernel
theorem dX11_init_42 : decode cX11_init 42 = .ok (.aload_n 0, 1) := by decide +kernel
theorem dX11_init_43 : decode cX11_init 43 = .ok (.bipush 20, 2) := by decide +kernel
theorem dX11_init_45 : decode cX11_init 45 = .ok (.newarray .int, 2) := by decide +kernel
theorem dX11_init_47 : decode cX11_init 47 = .ok (.putfield 27, 3) := by decide +kernel
theorem dX11_init_50 : decode cX11_init 50 = .ok (.aload_n 0, 1) := by decide +kernel
theorem dX11_init_51 : decode cX11_init 51 = .ok (.bipush 20, 2) := by decide +kernel
theorem dX11_init_53 : decode cX11_init 53 = .ok (.newarray .int, 2) := by decide +kernel
theorem dX11_init_55 : decode cX11_init 55 = .ok (.putfield 30, 3) := by decide +kernel
theorem dX11_init_58 : decode cX11_init 58 = .ok (.aload_n 0, 1) := by decide +kernel
theorem dX11_init_59 : decode cX11_init 59 = .ok (.bipush 20, 2) := by decide +kernel
theorem dX11_init_61 : decode cX11_init 61 = .ok (.newarray .int, 2) := by decide +kernel
theorem dX11_init_63 : decode cX11_init 63 = .ok (.putfield 33, 3) := by decide +kernel
theorem dX11_init_66 : decode cX11_init 66 = .ok (.aload_n 0, 1) := by decide +kernel
theorem dX11_init_67 : decode cX11_init 67 = .ok (.bipush 20, 2) := by decide +kernel
theorem dX11_init_69 : decode cX11_init 69 = .ok (.newarray .int, 2) := by decide +kernel
theorem dX11_init_71 : decode cX11_init 71 = .ok (.putfield 36, 3) := by decide +kernel
theorem dX11_init_74 : decode cX11_init 74 = .ok (.aload_n 0, 1) := by decide +kernel
theorem dX11_init_75 : decode cX11_init 75 = .ok (.bipush 12, 2) := by decide +kernel
theorem dX11_init_77 : decode cX11_init 77 = .ok (.newarray .int, 2) := by decide +kernel
theorem dX11_init_79 : decode cX11_init 79 = .ok (.putfield 39, 3) := by decide +kernel
theorem dX11_init_82 : decode cX11_init 82 = .ok (.aload_n 0, 1) := by decide +kernel
theorem dX11_init_83 : decode cX11_init 83 = .ok (.bipush 12, 2) := by decide +kernel
theorem dX11_init_85 : decode cX11_init 85 = .ok (.newarray .int, 2) := by decide +kernel
theorem dX11_init_87 : decode cX11_init 87 = .ok (.putfield 42, 3) := by decide +kernel
theorem dX11_init_90 : decode cX11_init 90 = .ok (.aload_n 0, 1) := by decide +kernel
theorem dX11_init_91 : decode cX11_init 91 = .ok (.iconst 4, 1) := by decide +kernel
theorem dX11_init_92 : decode cX11_init 92 = .ok (.newarray .int, 2) := by decide +kernel
theorem dX11_init_94 : decode cX11_init 94 = .ok (.putfield 45, 3) := by decide +kernel
theorem dX11_init_97 : decode cX11_init 97 = .ok (.aload_n 0, 1) := by decide +kernel
theorem dX11_init_98 : decode cX11_init 98 = .ok (.iconst 4, 1) := by decide +kernel
theorem dX11_init_99 : decode cX11_init 99 = .ok (.newarray .int, 2) := by decide +kernel
theorem dX11_init_101 : decode cX11_init 101 = .ok (.putfield 48, 3) := by decide +kernel
theorem dX11_init_104 : decode cX11_init 104 = .ok (.aload_n 0, 1) := by decide +kernel
theorem dX11_init_105 : decode cX11_init 105 = .ok (.iconst 1, 1) := by decide +kernel
theorem dX11_init_106 : decode cX11_init 106 = .ok (.putfield 51, 3) := by decide +kernel
theorem dX11_init_109 : decode cX11_init 109 = .ok (.aload_n 0, 1) := by decide +kernel
theorem dX11_init_110 : decode cX11_init 110 = .ok (.sipush 4096, 3) := by decide +kernel
theorem dX11_init_113 : decode cX11_init 113 = .ok (.newarray .int, 2) := by decide +kernel
theorem dX11_init_115 : decode cX11_init 115 = .ok (.putfield 54, 3) := by decide +kernel
theorem dX11_init_118 : decode cX11_init 118 = .ok (.aload_n 0, 1) := by decide +kernel
theorem dX11_init_119 : decode cX11_init 119 = .ok (.sipush 4096, 3) := by decide +kernel
theorem dX11_init_122 : decode cX11_init 122 = .ok (.newarray .int, 2) := by decide +kernel
theorem dX11_init_124 : decode cX11_init 124 = .ok (.putfield 57, 3) := by decide +kernel
theorem dX11_init_127 : decode cX11_init 127 = .ok (.aload_n 0, 1) := by decide +kernel
theorem dX11_init_128 : decode cX11_init 128 = .ok (.sipush 4096, 3) := by decide +kernel
theorem dX11_init_131 : decode cX11_init 131 = .ok (.newarray .int, 2) := by decide +kernel
theorem dX11_init_133 : decode cX11_init 133 = .ok (.putfield 60, 3) := by decide +kernel
theorem dX11_init_136 : decode cX11_init 136 = .ok (.aload_n 0, 1) := by decide +kernel
theorem dX11_init_137 : decode cX11_init 137 = .ok (.sipush 4096, 3) := by decide +kernel
theorem dX11_init_140 : decode cX11_init 140 = .ok (.newarray .int, 2) := by decide +kernel
theorem dX11_init_142 : decode cX11_init 142 = .ok (.putfield 63, 3) := by decide +kernel
theorem dX11_init_145 : decode cX11_init 145 = .ok (.aload_n 0, 1) := by decide +kernel
theorem dX11_init_146 : decode cX11_init 146 = .ok (.bipush 12, 2) := by decide +kernel
theorem dX11_init_148 : decode cX11_init 148 = .ok (.newarray .int, 2) := by decide +kernel
theorem dX11_init_150 : decode cX11_init 150 = .ok (.putfield 66, 3) := by decide +kernel
theorem dX11_init_153 : decode cX11_init 153 = .ok (.aload_n 0, 1) := by decide +kernel
theorem dX11_init_154 : decode cX11_init 154 = .ok (.bipush 12, 2) := by decide +kernel
theorem dX11_init_156 : decode cX11_init 156 = .ok (.newarray .int, 2) := by decide +kernel
theorem dX11_init_158 : decode cX11_init 158 = .ok (.putfield 69, 3) := by decide +kernel
theorem dX11_init_161 : decode cX11_init 161 = .ok (.aload_n 0, 1) := by decide +kernel
theorem dX11_init_162 : decode cX11_init 162 = .ok (.iconst 2, 1) := by decide +kernel
theorem dX11_init_163 : decode cX11_init 163 = .ok (.newarray .int, 2) := by decide +kernel
theorem dX11_init_165 : decode cX11_init 165 = .ok (.putfield 72, 3) := by decide +kernel
theorem dX11_init_168 : decode cX11_init 168 = .ok (.aload_n 0, 1) := by decide +kernel
theorem dX11_init_169 : decode cX11_init 169 = .ok (.bipush 40, 2) := by decide +kernel
theorem dX11_init_171 : decode cX11_init 171 = .ok (.newarray .int, 2) := by decide +kernel
theorem dX11_init_173 : decode cX11_init 173 = .ok (.putfield 75, 3) := by decide +kernel
theorem dX11_init_176 : decode cX11_init 176 = .ok (.aload_n 0, 1) := by decide +kernel
theorem dX11_init_177 : decode cX11_init 177 = .ok (.bipush 40, 2) := by decide +kernel
theorem dX11_init_179 : decode cX11_init 179 = .ok (.newarray .boolean, 2) := by decide +kernel
theorem dX11_init_181 : decode cX11_init 181 = .ok (.putfield 78, 3) := by decide +kernel
theorem dX11_init_184 : decode cX11_init 184 = .ok (.aload_n 0, 1) := by decide +kernel
theorem dX11_init_185 : decode cX11_init 185 = .ok (.bipush 50, 2) := by decide +kernel
theorem dX11_init_187 : decode cX11_init 187 = .ok (.putfield 81, 3) := by decide +kernel
theorem dX11_init_190 : decode cX11_init 190 = .ok (.aload_n 0, 1) := by decide +kernel
theorem dX11_init_191 : decode cX11_init 191 = .ok (.bipush 8, 2) := by decide +kernel
theorem dX11_init_193 : decode cX11_init 193 = .ok (.newarray .int, 2) := by decide +kernel
theorem dX11_init_195 : decode cX11_init 195 = .ok (.putfield 84, 3) := by decide +kernel
theorem dX11_init_198 : decode cX11_init 198 = .ok (.aload_n 0, 1) := by decide +kernel
theorem dX11_init_199 : decode cX11_init 199 = .ok (.bipush 8, 2) := by decide +kernel
theorem dX11_init_201 : decode cX11_init 201 = .ok (.newarray .int, 2) := by decide +kernel
theorem dX11_init_203 : decode cX11_init 203 = .ok (.putfield 87, 3) := by decide +kernel
theorem dX11_init_206 : decode cX11_init 206 = .ok (.aload_n 0, 1) := by decide +kernel
theorem dX11_init_207 : decode cX11_init 207 = .ok (.bipush 8, 2) := by decide +kernel
theorem dX11_init_209 : decode cX11_init 209 = .ok (.newarray .int, 2) := by decide +kernel
theorem dX11_init_211 : decode cX11_init 211 = .ok (.putfield 90, 3) := by decide +kernel
theorem dX11_init_214 : decode cX11_init 214 = .ok (.aload_n 0, 1) := by decide +kernel
theorem dX11_init_215 : decode cX11_init 215 = .ok (.bipush 8, 2) := by decide +kernel
theorem dX11_init_217 : decode cX11_init 217 = .ok (.newarray .boolean, 2) := by decide +kernel
theorem dX11_init_219 : decode cX11_init 219 = .ok (.putfield 93, 3) := by decide +kernel
theorem dX11_init_222 : decode cX11_init 222 = .ok (.aload_n 0, 1) := by decide +kernel
theorem dX11_init_223 : decode cX11_init 223 = .ok (.sipush 4800, 3) := by decide +kernel
theorem dX11_init_226 : decode cX11_init 226 = .ok (.newarray .long, 2) := by decide +kernel
theorem dX11_init_228 : decode cX11_init 228 = .ok (.putfield 96, 3) := by decide +kernel
theorem dX11_init_231 : decode cX11_init 231 = .ok (.aload_n 0, 1) := by decide +kernel
theorem dX11_init_232 : decode cX11_init 232 = .ok (.sipush 4800, 3) := by decide +kernel
theorem dX11_init_235 : decode cX11_init 235 = .ok (.newarray .long, 2) := by decide +kernel
theorem dX11_init_237 : decode cX11_init 237 = .ok (.putfield 100, 3) := by decide +kernel
theorem dX11_init_240 : decode cX11_init 240 = .ok (.aload_n 0, 1) := by decide +kernel
theorem dX11_init_241 : decode cX11_init 241 = .ok (.sipush 4800, 3) := by decide +kernel
theorem dX11_init_244 : decode cX11_init 244 = .ok (.newarray .int, 2) := by decide +kernel
theorem dX11_init_246 : decode cX11_init 246 = .ok (.putfield 103, 3) := by decide +kernel
theorem dX11_init_249 : decode cX11_init 249 = .ok (.aload_n 0, 1) := by decide +kernel
theorem dX11_init_250 : decode cX11_init 250 = .ok (.iconst 4, 1) := by decide +kernel
theorem dX11_init_251 : decode cX11_init 251 = .ok (.newarray .int, 2) := by decide +kernel
theorem dX11_init_253 : decode cX11_init 253 = .ok (.putfield 106, 3) := by decide +kernel
theorem dX11_init_256 : decode cX11_init 256 = .ok (.aload_n 0, 1) := by decide +kernel
theorem dX11_init_257 : decode cX11_init 257 = .ok (.iconst 4, 1) := by decide +kernel
theorem dX11_init_258 : decode cX11_init 258 = .ok (.newarray .int, 2) := by decide +kernel
theorem dX11_init_260 : decode cX11_init 260 = .ok (.putfield 109, 3) := by decide +kernel
theorem dX11_init_263 : decode cX11_init 263 = .ok (.aload_n 0, 1) := by decide +kernel
theorem dX11_init_264 : decode cX11_init 264 = .ok (.sipush 240, 3) := by decide +kernel
theorem dX11_init_267 : decode cX11_init 267 = .ok (.newarray .int, 2) := by decide +kernel
theorem dX11_init_269 : decode cX11_init 269 = .ok (.putfield 112, 3) := by decide +kernel
theorem dX11_init_272 : decode cX11_init 272 = .ok (.aload_n 0, 1) := by decide +kernel
theorem dX11_init_273 : decode cX11_init 273 = .ok (.bipush 64, 2) := by decide +kernel
theorem dX11_init_275 : decode cX11_init 275 = .ok (.newarray .int, 2) := by decide +kernel
theorem dX11_init_277 : decode cX11_init 277 = .ok (.putfield 115, 3) := by decide +kernel
theorem dX11_init_280 : decode cX11_init 280 = .ok (.aload_n 0, 1) := by decide +kernel
theorem dX11_init_281 : decode cX11_init 281 = .ok (.bipush 64, 2) := by decide +kernel
theorem dX11_init_283 : decode cX11_init 283 = .ok (.newarray .boolean, 2) := by decide +kernel
theorem dX11_init_285 : decode cX11_init 285 = .ok (.putfield 118, 3) := by decide +kernel
theorem dX11_init_288 : decode cX11_init 288 = .ok (.aload_n 0, 1) := by decide +kernel
theorem dX11_init_289 : decode cX11_init 289 = .ok (.iconst 5, 1) := by decide +kernel
theorem dX11_init_290 : decode cX11_init 290 = .ok (.newarray .long, 2) := by decide +kernel
theorem dX11_init_292 : decode cX11_init 292 = .ok (.putfield 121, 3) := by decide +kernel
theorem dX11_init_295 : decode cX11_init 295 = .ok (.aload_n 0, 1) := by decide +kernel
theorem dX11_init_296 : decode cX11_init 296 = .ok (.getfield 72, 3) := by decide +kernel
theorem dX11_init_299 : decode cX11_init 299 = .ok (.iconst 0, 1) := by decide +kernel
theorem dX11_init_300 : decode cX11_init 300 = .ok (.sipush 600, 3) := by decide +kernel
theorem dX11_init_303 : decode cX11_init 303 = .ok (.iastore, 1) := by decide +kernel
theorem dX11_init_304 : decode cX11_init 304 = .ok (.aload_n 0, 1) := by decide +kernel
theorem dX11_init_305 : decode cX11_init 305 = .ok (.getfield 72, 3) := by decide +kernel
theorem dX11_init_308 : decode cX11_init 308 = .ok (.iconst 1, 1) := by decide +kernel
theorem dX11_init_309 : decode cX11_init 309 = .ok (.sipush 600, 3) := by decide +kernel
theorem dX11_init_312 : decode cX11_init 312 = .ok (.iastore, 1) := by decide +kernel
theorem dX11_init_313 : decode cX11_init 313 = .ok (.return_, 1) := by decide +kernel
theorem dX11_in_0 : decode cX11_in 0 = .ok (.lload_n 0, 1) := by decide +kernel
theorem dX11_in_1 : decode cX11_in 1 = .ok (.lload_n 2, 1) := by decide +kernel
theorem dX11_in_2 : decode cX11_in 2 = .ok (.lcmp, 1) := by decide +kernel
theorem dX11_in_3 : decode cX11_in 3 = .ok (.ifCond .lt 14, 3) := by decide +kernel
theorem dX11_in_6 : decode cX11_in 6 = .ok (.lload_n 0, 1) := by decide +kernel
theorem dX11_in_7 : decode cX11_in 7 = .ok (.lload 4, 2) := by decide +kernel
theorem dX11_in_9 : decode cX11_in 9 = .ok (.lcmp, 1) := by decide +kernel
theorem dX11_in_10 : decode cX11_in 10 = .ok (.ifCond .gt 7, 3) := by decide +kernel
theorem dX11_in_13 : decode cX11_in 13 = .ok (.iconst 1, 1) := by decide +kernel
theorem dX11_in_14 : decode cX11_in 14 = .ok (.goto 4, 3) := by decide +kernel
theorem dX11_in_17 : decode cX11_in 17 = .ok (.iconst 0, 1) := by decide +kernel
theorem dX11_in_18 : decode cX11_in 18 = .ok (.ireturn, 1) := by decide +kernel
theorem dX11_width_0 : decode cX11_width 0 = .ok (.iload_n 1, 1) := by decide +kernel
theorem dX11_width_1 : decode cX11_width 1 = .ok (.i2l, 1) := by decide +kernel
theorem dX11_width_2 : decode cX11_width 2 = .ok (.lconst 1, 1) := by decide +kernel
theorem dX11_width_3 : decode cX11_width 3 = .ok (.ldc2_w 124, 3) := by decide +kernel
theorem dX11_width_6 : decode cX11_width 6 = .ok (.invokestatic 126, 3) := by decide +kernel
theorem dX11_width_9 : decode cX11_width 9 = .ok (.ifCond .ne 6, 3) := by decide +kernel
theorem dX11_width_12 : decode cX11_width 12 = .ok (.ldc 130, 2) := by decide +kernel
theorem dX11_width_14 : decode cX11_width 14 = .ok (.ireturn, 1) := by decide +kernel
theorem dX11_width_15 : decode cX11_width 15 = .ok (.aload_n 0, 1) := by decide +kernel
theorem dX11_width_16 : decode cX11_width 16 = .ok (.getfield 7, 3) := by decide +kernel
theorem dX11_width_19 : decode cX11_width 19 = .ok (.istore_n 2, 1) := by decide +kernel
theorem dX11_width_20 : decode cX11_width 20 = .ok (.aload_n 0, 1) := by decide +kernel
theorem dX11_width_21 : decode cX11_width 21 = .ok (.iload_n 1, 1) := by decide +kernel
theorem dX11_width_22 : decode cX11_width 22 = .ok (.putfield 7, 3) := by decide +kernel
theorem dX11_width_25 : decode cX11_width 25 = .ok (.iload_n 2, 1) := by decide +kernel
theorem dX11_width_26 : decode cX11_width 26 = .ok (.ireturn, 1) := by decide +kernel
theorem dX11_piece_0 : decode cX11_piece 0 = .ok (.iload_n 1, 1) := by decide +kernel
theorem dX11_piece_1 : decode cX11_piece 1 = .ok (.i2l, 1) := by decide +kernel
theorem dX11_piece_2 : decode cX11_piece 2 = .ok (.lconst 0, 1) := by decide +kernel
theorem dX11_piece_3 : decode cX11_piece 3 = .ok (.ldc2_w 124, 3) := by decide +kernel
theorem dX11_piece_6 : decode cX11_piece 6 = .ok (.invokestatic 126, 3) := by decide +kernel
theorem dX11_piece_9 : decode cX11_piece 9 = .ok (.ifCond .eq 27, 3) := by decide +kernel
theorem dX11_piece_12 : decode cX11_piece 12 = .ok (.iload_n 2, 1) := by decide +kernel
theorem dX11_piece_13 : decode cX11_piece 13 = .ok (.i2l, 1) := by decide +kernel
theorem dX11_piece_14 : decode cX11_piece 14 = .ok (.lconst 1, 1) := by decide +kernel
theorem dX11_piece_15 : decode cX11_piece 15 = .ok (.ldc2_w 131, 3) := by decide +kernel
theorem dX11_piece_18 : decode cX11_piece 18 = .ok (.invokestatic 126, 3) := by decide +kernel
theorem dX11_piece_21 : decode cX11_piece 21 = .ok (.ifCond .eq 15, 3) := by decide +kernel
theorem dX11_piece_24 : decode cX11_piece 24 = .ok (.iload_n 3, 1) := by decide +kernel
theorem dX11_piece_25 : decode cX11_piece 25 = .ok (.i2l, 1) := by decide +kernel
theorem dX11_piece_26 : decode cX11_piece 26 = .ok (.lconst 0, 1) := by decide +kernel
theorem dX11_piece_27 : decode cX11_piece 27 = .ok (.ldc2_w 133, 3) := by decide +kernel
theorem dX11_piece_30 : decode cX11_piece 30 = .ok (.invokestatic 126, 3) := by decide +kernel
theorem dX11_piece_33 : decode cX11_piece 33 = .ok (.ifCond .ne 6, 3) := by decide +kernel
theorem dX11_piece_36 : decode cX11_piece 36 = .ok (.ldc 130, 2) := by decide +kernel
theorem dX11_piece_38 : decode cX11_piece 38 = .ok (.ireturn, 1) := by decide +kernel
theorem dX11_piece_39 : decode cX11_piece 39 = .ok (.aload_n 0, 1) := by decide +kernel
theorem dX11_piece_40 : decode cX11_piece 40 = .ok (.getfield 135, 3) := by decide +kernel
theorem dX11_piece_43 : decode cX11_piece 43 = .ok (.bipush 12, 2) := by decide +kernel
theorem dX11_piece_45 : decode cX11_piece 45 = .ok (.if_icmp .ne 6, 3) := by decide +kernel
theorem dX11_piece_48 : decode cX11_piece 48 = .ok (.ldc 138, 2) := by decide +kernel
theorem dX11_piece_50 : decode cX11_piece 50 = .ok (.ireturn, 1) := by decide +kernel
theorem dX11_piece_51 : decode cX11_piece 51 = .ok (.aload_n 0, 1) := by decide +kernel
theorem dX11_piece_52 : decode cX11_piece 52 = .ok (.getfield 13, 3) := by decide +kernel
theorem dX11_piece_55 : decode cX11_piece 55 = .ok (.aload_n 0, 1) := by decide +kernel
theorem dX11_piece_56 : decode cX11_piece 56 = .ok (.getfield 135, 3) := by decide +kernel
theorem dX11_piece_59 : decode cX11_piece 59 = .ok (.iload_n 1, 1) := by decide +kernel
theorem dX11_piece_60 : decode cX11_piece 60 = .ok (.iastore, 1) := by decide +kernel
theorem dX11_piece_61 : decode cX11_piece 61 = .ok (.aload_n 0, 1) := by decide +kernel
theorem dX11_piece_62 : decode cX11_piece 62 = .ok (.getfield 17, 3) := by decide +kernel
theorem dX11_piece_65 : decode cX11_piece 65 = .ok (.aload_n 0, 1) := by decide +kernel
theorem dX11_piece_66 : decode cX11_piece 66 = .ok (.getfield 135, 3) := by decide +kernel
theorem dX11_piece_69 : decode cX11_piece 69 = .ok (.iload_n 2, 1) := by decide +kernel
theorem dX11_piece_70 : decode cX11_piece 70 = .ok (.iastore, 1) := by decide +kernel
theorem dX11_piece_71 : decode cX11_piece 71 = .ok (.aload_n 0, 1) := by decide +kernel
theorem dX11_piece_72 : decode cX11_piece 72 = .ok (.getfield 20, 3) := by decide +kernel
theorem dX11_piece_75 : decode cX11_piece 75 = .ok (.aload_n 0, 1) := by decide +kernel
theorem dX11_piece_76 : decode cX11_piece 76 = .ok (.getfield 135, 3) := by decide +kernel
theorem dX11_piece_79 : decode cX11_piece 79 = .ok (.iload_n 3, 1) := by decide +kernel
theorem dX11_piece_80 : decode cX11_piece 80 = .ok (.iastore, 1) := by decide +kernel
theorem dX11_piece_81 : decode cX11_piece 81 = .ok (.aload_n 0, 1) := by decide +kernel
theorem dX11_piece_82 : decode cX11_piece 82 = .ok (.getfield 23, 3) := by decide +kernel
theorem dX11_piece_85 : decode cX11_piece 85 = .ok (.aload_n 0, 1) := by decide +kernel
theorem dX11_piece_86 : decode cX11_piece 86 = .ok (.getfield 135, 3) := by decide +kernel
theorem dX11_piece_89 : decode cX11_piece 89 = .ok (.iload 4, 2) := by decide +kernel
theorem dX11_piece_91 : decode cX11_piece 91 = .ok (.bastore, 1) := by decide +kernel
theorem dX11_piece_92 : decode cX11_piece 92 = .ok (.aload_n 0, 1) := by decide +kernel
theorem dX11_piece_93 : decode cX11_piece 93 = .ok (.dup, 1) := by decide +kernel
theorem dX11_piece_94 : decode cX11_piece 94 = .ok (.getfield 135, 3) := by decide +kernel
theorem dX11_piece_97 : decode cX11_piece 97 = .ok (.iconst 1, 1) := by decide +kernel
theorem dX11_piece_98 : decode cX11_piece 98 = .ok (.iadd, 1) := by decide +kernel
theorem dX11_piece_99 : decode cX11_piece 99 = .ok (.putfield 135, 3) := by decide +kernel
theorem dX11_piece_102 : decode cX11_piece 102 = .ok (.aload_n 0, 1) := by decide +kernel
theorem dX11_piece_103 : decode cX11_piece 103 = .ok (.getfield 135, 3) := by decide +kernel
theorem dX11_piece_106 : decode cX11_piece 106 = .ok (.iconst 1, 1) := by decide +kernel
theorem dX11_piece_107 : decode cX11_piece 107 = .ok (.isub, 1) := by decide +kernel
theorem dX11_piece_108 : decode cX11_piece 108 = .ok (.ireturn, 1) := by decide +kernel
theorem dX11_isPiece_0 : decode cX11_isPiece 0 = .ok (.iload_n 1, 1) := by decide +kernel
theorem dX11_isPiece_1 : decode cX11_isPiece 1 = .ok (.i2l, 1) := by decide +kernel
theorem dX11_isPiece_2 : decode cX11_isPiece 2 = .ok (.lconst 0, 1) := by decide +kernel
theorem dX11_isPiece_3 : decode cX11_isPiece 3 = .ok (.aload_n 0, 1) := by decide +kernel
theorem dX11_isPiece_4 : decode cX11_isPiece 4 = .ok (.getfield 135, 3) := by decide +kernel
theorem dX11_isPiece_7 : decode cX11_isPiece 7 = .ok (.iconst 1, 1) := by decide +kernel
theorem dX11_isPiece_8 : decode cX11_isPiece 8 = .ok (.isub, 1) := by decide +kernel
theorem dX11_isPiece_9 : decode cX11_isPiece 9 = .ok (.i2l, 1) := by decide +kernel
theorem dX11_isPiece_10 : decode cX11_isPiece 10 = .ok (.invokestatic 126, 3) := by decide +kernel
theorem dX11_isPiece_13 : decode cX11_isPiece 13 = .ok (.ireturn, 1) := by decide +kernel
theorem dX11_about_0 : decode cX11_about 0 = .ok (.aload_n 0, 1) := by decide +kernel
theorem dX11_about_1 : decode cX11_about 1 = .ok (.iload_n 1, 1) := by decide +kernel
theorem dX11_about_2 : decode cX11_about 2 = .ok (.invokevirtual 139, 3) := by decide +kernel
theorem dX11_about_5 : decode cX11_about 5 = .ok (.ifCond .ne 6, 3) := by decide +kernel
theorem dX11_about_8 : decode cX11_about 8 = .ok (.ldc 143, 2) := by decide +kernel
theorem dX11_about_10 : decode cX11_about 10 = .ok (.ireturn, 1) := by decide +kernel
theorem dX11_about_11 : decode cX11_about 11 = .ok (.iload_n 2, 1) := by decide +kernel
theorem dX11_about_12 : decode cX11_about 12 = .ok (.tableswitch 68 0 3 #[32, 39, 46, 53], 32) := by decide +kernel
theorem dX11_about_44 : decode cX11_about 44 = .ok (.aload_n 0, 1) := by decide +kernel
theorem dX11_about_45 : decode cX11_about 45 = .ok (.getfield 13, 3) := by decide +kernel
theorem dX11_about_48 : decode cX11_about 48 = .ok (.iload_n 1, 1) := by decide +kernel
theorem dX11_about_49 : decode cX11_about 49 = .ok (.iaload, 1) := by decide +kernel
theorem dX11_about_50 : decode cX11_about 50 = .ok (.ireturn, 1) := by decide +kernel
theorem dX11_about_51 : decode cX11_about 51 = .ok (.aload_n 0, 1) := by decide +kernel
theorem dX11_about_52 : decode cX11_about 52 = .ok (.getfield 17, 3) := by decide +kernel
theorem dX11_about_55 : decode cX11_about 55 = .ok (.iload_n 1, 1) := by decide +kernel
theorem dX11_about_56 : decode cX11_about 56 = .ok (.iaload, 1) := by decide +kernel
theorem dX11_about_57 : decode cX11_about 57 = .ok (.ireturn, 1) := by decide +kernel
theorem dX11_about_58 : decode cX11_about 58 = .ok (.aload_n 0, 1) := by decide +kernel
theorem dX11_about_59 : decode cX11_about 59 = .ok (.getfield 20, 3) := by decide +kernel
theorem dX11_about_62 : decode cX11_about 62 = .ok (.iload_n 1, 1) := by decide +kernel
theorem dX11_about_63 : decode cX11_about 63 = .ok (.iaload, 1) := by decide +kernel
theorem dX11_about_64 : decode cX11_about 64 = .ok (.ireturn, 1) := by decide +kernel
theorem dX11_about_65 : decode cX11_about 65 = .ok (.aload_n 0, 1) := by decide +kernel
theorem dX11_about_66 : decode cX11_about 66 = .ok (.getfield 23, 3) := by decide +kernel
theorem dX11_about_69 : decode cX11_about 69 = .ok (.iload_n 1, 1) := by decide +kernel
theorem dX11_about_70 : decode cX11_about 70 = .ok (.baload, 1) := by decide +kernel
theorem dX11_about_71 : decode cX11_about 71 = .ok (.ifCond .eq 7, 3) := by decide +kernel
theorem dX11_about_74 : decode cX11_about 74 = .ok (.iconst 1, 1) := by decide +kernel
theorem dX11_about_75 : decode cX11_about 75 = .ok (.goto 4, 3) := by decide +kernel
theorem dX11_about_78 : decode cX11_about 78 = .ok (.iconst 0, 1) := by decide +kernel
theorem dX11_about_79 : decode cX11_about 79 = .ok (.ireturn, 1) := by decide +kernel
theorem dX11_about_80 : decode cX11_about 80 = .ok (.ldc 130, 2) := by decide +kernel
theorem dX11_about_82 : decode cX11_about 82 = .ok (.ireturn, 1) := by decide +kernel
theorem dX11_meet_0 : decode cX11_meet 0 = .ok (.aload_n 0, 1) := by decide +kernel
theorem dX11_meet_1 : decode cX11_meet 1 = .ok (.iload_n 1, 1) := by decide +kernel
theorem dX11_meet_2 : decode cX11_meet 2 = .ok (.invokevirtual 139, 3) := by decide +kernel
theorem dX11_meet_5 : decode cX11_meet 5 = .ok (.ifCond .eq 11, 3) := by decide +kernel
theorem dX11_meet_8 : decode cX11_meet 8 = .ok (.aload_n 0, 1) := by decide +kernel
theorem dX11_meet_9 : decode cX11_meet 9 = .ok (.iload_n 3, 1) := by decide +kernel
theorem dX11_meet_10 : decode cX11_meet 10 = .ok (.invokevirtual 139, 3) := by decide +kernel
theorem dX11_meet_13 : decode cX11_meet 13 = .ok (.ifCond .ne 6, 3) := by decide +kernel
theorem dX11_meet_16 : decode cX11_meet 16 = .ok (.ldc 143, 2) := by decide +kernel
theorem dX11_meet_18 : decode cX11_meet 18 = .ok (.ireturn, 1) := by decide +kernel
theorem dX11_meet_19 : decode cX11_meet 19 = .ok (.iload_n 2, 1) := by decide +kernel
theorem dX11_meet_20 : decode cX11_meet 20 = .ok (.i2l, 1) := by decide +kernel
theorem dX11_meet_21 : decode cX11_meet 21 = .ok (.lconst 0, 1) := by decide +kernel
theorem dX11_meet_22 : decode cX11_meet 22 = .ok (.lconst 1, 1) := by decide +kernel
theorem dX11_meet_23 : decode cX11_meet 23 = .ok (.invokestatic 126, 3) := by decide +kernel
theorem dX11_meet_26 : decode cX11_meet 26 = .ok (.ifCond .eq 14, 3) := by decide +kernel
theorem dX11_meet_29 : decode cX11_meet 29 = .ok (.iload 4, 2) := by decide +kernel
theorem dX11_meet_31 : decode cX11_meet 31 = .ok (.i2l, 1) := by decide +kernel
theorem dX11_meet_32 : decode cX11_meet 32 = .ok (.lconst 0, 1) := by decide +kernel
theorem dX11_meet_33 : decode cX11_meet 33 = .ok (.lconst 1, 1) := by decide +kernel
theorem dX11_meet_34 : decode cX11_meet 34 = .ok (.invokestatic 126, 3) := by decide +kernel
theorem dX11_meet_37 : decode cX11_meet 37 = .ok (.ifCond .ne 6, 3) := by decide +kernel
theorem dX11_meet_40 : decode cX11_meet 40 = .ok (.ldc 130, 2) := by decide +kernel
theorem dX11_meet_42 : decode cX11_meet 42 = .ok (.ireturn, 1) := by decide +kernel
theorem dX11_meet_43 : decode cX11_meet 43 = .ok (.iload_n 1, 1) := by decide +kernel
theorem dX11_meet_44 : decode cX11_meet 44 = .ok (.iload_n 3, 1) := by decide +kernel
theorem dX11_meet_45 : decode cX11_meet 45 = .ok (.if_icmp .ne 6, 3) := by decide +kernel
theorem dX11_meet_48 : decode cX11_meet 48 = .ok (.ldc 144, 2) := by decide +kernel
theorem dX11_meet_50 : decode cX11_meet 50 = .ok (.ireturn, 1) := by decide +kernel
theorem dX11_meet_51 : decode cX11_meet 51 = .ok (.aload_n 0, 1) := by decide +kernel
theorem dX11_meet_52 : decode cX11_meet 52 = .ok (.getfield 145, 3) := by decide +kernel
theorem dX11_meet_55 : decode cX11_meet 55 = .ok (.bipush 20, 2) := by decide +kernel
theorem dX11_meet_57 : decode cX11_meet 57 = .ok (.if_icmp .ne 6, 3) := by decide +kernel
theorem dX11_meet_60 : decode cX11_meet 60 = .ok (.ldc 138, 2) := by decide +kernel
theorem dX11_meet_62 : decode cX11_meet 62 = .ok (.ireturn, 1) := by decide +kernel
theorem dX11_meet_63 : decode cX11_meet 63 = .ok (.aload_n 0, 1) := by decide +kernel
theorem dX11_meet_64 : decode cX11_meet 64 = .ok (.getfield 27, 3) := by decide +kernel
theorem dX11_meet_67 : decode cX11_meet 67 = .ok (.aload_n 0, 1) := by decide +kernel
theorem dX11_meet_68 : decode cX11_meet 68 = .ok (.getfield 145, 3) := by decide +kernel
theorem dX11_meet_71 : decode cX11_meet 71 = .ok (.iload_n 1, 1) := by decide +kernel
theorem dX11_meet_72 : decode cX11_meet 72 = .ok (.iastore, 1) := by decide +kernel
theorem dX11_meet_73 : decode cX11_meet 73 = .ok (.aload_n 0, 1) := by decide +kernel
theorem dX11_meet_74 : decode cX11_meet 74 = .ok (.getfield 30, 3) := by decide +kernel
theorem dX11_meet_77 : decode cX11_meet 77 = .ok (.aload_n 0, 1) := by decide +kernel
theorem dX11_meet_78 : decode cX11_meet 78 = .ok (.getfield 145, 3) := by decide +kernel
theorem dX11_meet_81 : decode cX11_meet 81 = .ok (.iload_n 2, 1) := by decide +kernel
theorem dX11_meet_82 : decode cX11_meet 82 = .ok (.iastore, 1) := by decide +kernel
theorem dX11_meet_83 : decode cX11_meet 83 = .ok (.aload_n 0, 1) := by decide +kernel
theorem dX11_meet_84 : decode cX11_meet 84 = .ok (.getfield 33, 3) := by decide +kernel
theorem dX11_meet_87 : decode cX11_meet 87 = .ok (.aload_n 0, 1) := by decide +kernel
theorem dX11_meet_88 : decode cX11_meet 88 = .ok (.getfield 145, 3) := by decide +kernel
theorem dX11_meet_91 : decode cX11_meet 91 = .ok (.iload_n 3, 1) := by decide +kernel
theorem dX11_meet_92 : decode cX11_meet 92 = .ok (.iastore, 1) := by decide +kernel
theorem dX11_meet_93 : decode cX11_meet 93 = .ok (.aload_n 0, 1) := by decide +kernel
theorem dX11_meet_94 : decode cX11_meet 94 = .ok (.getfield 36, 3) := by decide +kernel
theorem dX11_meet_97 : decode cX11_meet 97 = .ok (.aload_n 0, 1) := by decide +kernel
theorem dX11_meet_98 : decode cX11_meet 98 = .ok (.getfield 145, 3) := by decide +kernel
theorem dX11_meet_101 : decode cX11_meet 101 = .ok (.iload 4, 2) := by decide +kernel
theorem dX11_meet_103 : decode cX11_meet 103 = .ok (.iastore, 1) := by decide +kernel
theorem dX11_meet_104 : decode cX11_meet 104 = .ok (.aload_n 0, 1) := by decide +kernel
theorem dX11_meet_105 : decode cX11_meet 105 = .ok (.dup, 1) := by decide +kernel
theorem dX11_meet_106 : decode cX11_meet 106 = .ok (.getfield 145, 3) := by decide +kernel
theorem dX11_meet_109 : decode cX11_meet 109 = .ok (.iconst 1, 1) := by decide +kernel
theorem dX11_meet_110 : decode cX11_meet 110 = .ok (.iadd, 1) := by decide +kernel
theorem dX11_meet_111 : decode cX11_meet 111 = .ok (.putfield 145, 3) := by decide +kernel
theorem dX11_meet_114 : decode cX11_meet 114 = .ok (.aload_n 0, 1) := by decide +kernel
theorem dX11_meet_115 : decode cX11_meet 115 = .ok (.getfield 145, 3) := by decide +kernel
theorem dX11_meet_118 : decode cX11_meet 118 = .ok (.iconst 1, 1) := by decide +kernel
theorem dX11_meet_119 : decode cX11_meet 119 = .ok (.isub, 1) := by decide +kernel
theorem dX11_meet_120 : decode cX11_meet 120 = .ok (.ireturn, 1) := by decide +kernel
theorem dX11_endOf_0 : decode cX11_endOf 0 = .ok (.iload_n 2, 1) := by decide +kernel
theorem dX11_endOf_1 : decode cX11_endOf 1 = .ok (.ifCond .ne 12, 3) := by decide +kernel
theorem dX11_endOf_4 : decode cX11_endOf 4 = .ok (.aload_n 0, 1) := by decide +kernel
theorem dX11_endOf_5 : decode cX11_endOf 5 = .ok (.getfield 13, 3) := by decide +kernel
theorem dX11_endOf_8 : decode cX11_endOf 8 = .ok (.iload_n 1, 1) := by decide +kernel
theorem dX11_endOf_9 : decode cX11_endOf 9 = .ok (.iaload, 1) := by decide +kernel
theorem dX11_endOf_10 : decode cX11_endOf 10 = .ok (.goto 16, 3) := by decide +kernel
theorem dX11_endOf_13 : decode cX11_endOf 13 = .ok (.aload_n 0, 1) := by decide +kernel
theorem dX11_endOf_14 : decode cX11_endOf 14 = .ok (.getfield 13, 3) := by decide +kernel
theorem dX11_endOf_17 : decode cX11_endOf 17 = .ok (.iload_n 1, 1) := by decide +kernel
theorem dX11_endOf_18 : decode cX11_endOf 18 = .ok (.iaload, 1) := by decide +kernel
theorem dX11_endOf_19 : decode cX11_endOf 19 = .ok (.aload_n 0, 1) := by decide +kernel
theorem dX11_endOf_20 : decode cX11_endOf 20 = .ok (.getfield 17, 3) := by decide +kernel
theorem dX11_endOf_23 : decode cX11_endOf 23 = .ok (.iload_n 1, 1) := by decide +kernel
theorem dX11_endOf_24 : decode cX11_endOf 24 = .ok (.iaload, 1) := by decide +kernel
theorem dX11_endOf_25 : decode cX11_endOf 25 = .ok (.iadd, 1) := by decide +kernel
theorem dX11_endOf_26 : decode cX11_endOf 26 = .ok (.ireturn, 1) := by decide +kernel
theorem dX11_apart_0 : decode cX11_apart 0 = .ok (.iconst 0, 1) := by decide +kernel
theorem dX11_apart_1 : decode cX11_apart 1 = .ok (.istore_n 1, 1) := by decide +kernel
theorem dX11_apart_2 : decode cX11_apart 2 = .ok (.iload_n 1, 1) := by decide +kernel
theorem dX11_apart_3 : decode cX11_apart 3 = .ok (.aload_n 0, 1) := by decide +kernel
theorem dX11_apart_4 : decode cX11_apart 4 = .ok (.getfield 145, 3) := by decide +kernel
theorem dX11_apart_7 : decode cX11_apart 7 = .ok (.if_icmp .ge 46, 3) := by decide +kernel
theorem dX11_apart_10 : decode cX11_apart 10 = .ok (.aload_n 0, 1) := by decide +kernel
theorem dX11_apart_11 : decode cX11_apart 11 = .ok (.aload_n 0, 1) := by decide +kernel
theorem dX11_apart_12 : decode cX11_apart 12 = .ok (.getfield 27, 3) := by decide +kernel
theorem dX11_apart_15 : decode cX11_apart 15 = .ok (.iload_n 1, 1) := by decide +kernel
theorem dX11_apart_16 : decode cX11_apart 16 = .ok (.iaload, 1) := by decide +kernel
theorem dX11_apart_17 : decode cX11_apart 17 = .ok (.aload_n 0, 1) := by decide +kernel
theorem dX11_apart_18 : decode cX11_apart 18 = .ok (.getfield 30, 3) := by decide +kernel
theorem dX11_apart_21 : decode cX11_apart 21 = .ok (.iload_n 1, 1) := by decide +kernel
theorem dX11_apart_22 : decode cX11_apart 22 = .ok (.iaload, 1) := by decide +kernel
theorem dX11_apart_23 : decode cX11_apart 23 = .ok (.invokevirtual 148, 3) := by decide +kernel
theorem dX11_apart_26 : decode cX11_apart 26 = .ok (.aload_n 0, 1) := by decide +kernel
theorem dX11_apart_27 : decode cX11_apart 27 = .ok (.aload_n 0, 1) := by decide +kernel
theorem dX11_apart_28 : decode cX11_apart 28 = .ok (.getfield 33, 3) := by decide +kernel
theorem dX11_apart_31 : decode cX11_apart 31 = .ok (.iload_n 1, 1) := by decide +kernel
theorem dX11_apart_32 : decode cX11_apart 32 = .ok (.iaload, 1) := by decide +kernel
theorem dX11_apart_33 : decode cX11_apart 33 = .ok (.aload_n 0, 1) := by decide +kernel
theorem dX11_apart_34 : decode cX11_apart 34 = .ok (.getfield 36, 3) := by decide +kernel
theorem dX11_apart_37 : decode cX11_apart 37 = .ok (.iload_n 1, 1) := by decide +kernel
theorem dX11_apart_38 : decode cX11_apart 38 = .ok (.iaload, 1) := by decide +kernel
theorem dX11_apart_39 : decode cX11_apart 39 = .ok (.invokevirtual 148, 3) := by decide +kernel
theorem dX11_apart_42 : decode cX11_apart 42 = .ok (.if_icmp .eq 5, 3) := by decide +kernel
theorem dX11_apart_45 : decode cX11_apart 45 = .ok (.iload_n 1, 1) := by decide +kernel
theorem dX11_apart_46 : decode cX11_apart 46 = .ok (.ireturn, 1) := by decide +kernel
theorem dX11_apart_47 : decode cX11_apart 47 = .ok (.iinc 1 1, 3) := by decide +kernel
theorem dX11_apart_50 : decode cX11_apart 50 = .ok (.goto (-48), 3) := by decide +kernel
theorem dX11_apart_53 : decode cX11_apart 53 = .ok (.ldc 152, 2) := by decide +kernel
theorem dX11_apart_55 : decode cX11_apart 55 = .ok (.ireturn, 1) := by decide +kernel
theorem dX11_mirror_0 : decode cX11_mirror 0 = .ok (.iconst 0, 1) := by decide +kernel
theorem dX11_mirror_1 : decode cX11_mirror 1 = .ok (.istore_n 1, 1) := by decide +kernel
theorem dX11_mirror_2 : decode cX11_mirror 2 = .ok (.iload_n 1, 1) := by decide +kernel
theorem dX11_mirror_3 : decode cX11_mirror 3 = .ok (.aload_n 0, 1) := by decide +kernel
theorem dX11_mirror_4 : decode cX11_mirror 4 = .ok (.getfield 135, 3) := by decide +kernel
theorem dX11_mirror_7 : decode cX11_mirror 7 = .ok (.if_icmp .ge 25, 3) := by decide +kernel
theorem dX11_mirror_10 : decode cX11_mirror 10 = .ok (.aload_n 0, 1) := by decide +kernel
theorem dX11_mirror_11 : decode cX11_mirror 11 = .ok (.iload_n 1, 1) := by decide +kernel
theorem dX11_mirror_12 : decode cX11_mirror 12 = .ok (.iconst 1, 1) := by decide +kernel
theorem dX11_mirror_13 : decode cX11_mirror 13 = .ok (.invokevirtual 148, 3) := by decide +kernel
theorem dX11_mirror_16 : decode cX11_mirror 16 = .ok (.aload_n 0, 1) := by decide +kernel
theorem dX11_mirror_17 : decode cX11_mirror 17 = .ok (.getfield 7, 3) := by decide +kernel
theorem dX11_mirror_20 : decode cX11_mirror 20 = .ok (.if_icmp .le 6, 3) := by decide +kernel
theorem dX11_mirror_23 : decode cX11_mirror 23 = .ok (.ldc 144, 2) := by decide +kernel
theorem dX11_mirror_25 : decode cX11_mirror 25 = .ok (.ireturn, 1) := by decide +kernel
theorem dX11_mirror_26 : decode cX11_mirror 26 = .ok (.iinc 1 1, 3) := by decide +kernel
theorem dX11_mirror_29 : decode cX11_mirror 29 = .ok (.goto (-27), 3) := by decide +kernel
theorem dX11_mirror_32 : decode cX11_mirror 32 = .ok (.iconst 0, 1) := by decide +kernel
theorem dX11_mirror_33 : decode cX11_mirror 33 = .ok (.istore_n 1, 1) := by decide +kernel
theorem dX11_mirror_34 : decode cX11_mirror 34 = .ok (.iconst 0, 1) := by decide +kernel
theorem dX11_mirror_35 : decode cX11_mirror 35 = .ok (.istore_n 2, 1) := by decide +kernel
