/-! decode rows (from claim/NAMES.whole.lean.txt) -/
theorem dX0_init_0 : decode cX0_init 0 = .ok (.aload_n 0, 1) := by decide +kernel
theorem dX0_init_1 : decode cX0_init 1 = .ok (.invokespecial 3, 3) := by decide +kernel
theorem dX0_init_4 : decode cX0_init 4 = .ok (.aload_n 0, 1) := by decide +kernel
theorem dX0_init_5 : decode cX0_init 5 = .ok (.iconst 0, 1) := by decide +kernel
theorem dX0_init_6 : decode cX0_init 6 = .ok (.putfield 9, 3) := by decide +kernel
theorem dX0_init_9 : decode cX0_init 9 = .ok (.aload_n 0, 1) := by decide +kernel
theorem dX0_init_10 : decode cX0_init 10 = .ok (.iconst 0, 1) := by decide +kernel
theorem dX0_init_11 : decode cX0_init 11 = .ok (.putfield 15, 3) := by decide +kernel
theorem dX0_init_14 : decode cX0_init 14 = .ok (.aload_n 0, 1) := by decide +kernel
theorem dX0_init_15 : decode cX0_init 15 = .ok (.iconst 0, 1) := by decide +kernel
theorem dX0_init_16 : decode cX0_init 16 = .ok (.putfield 18, 3) := by decide +kernel
theorem dX0_init_19 : decode cX0_init 19 = .ok (.aload_n 0, 1) := by decide +kernel
theorem dX0_init_20 : decode cX0_init 20 = .ok (.bipush 8, 2) := by decide +kernel
theorem dX0_init_22 : decode cX0_init 22 = .ok (.anewarray 21, 3) := by decide +kernel
theorem dX0_init_25 : decode cX0_init 25 = .ok (.putfield 23, 3) := by decide +kernel
theorem dX0_init_28 : decode cX0_init 28 = .ok (.aload_n 0, 1) := by decide +kernel
theorem dX0_init_29 : decode cX0_init 29 = .ok (.iconst 4, 1) := by decide +kernel
theorem dX0_init_30 : decode cX0_init 30 = .ok (.anewarray 27, 3) := by decide +kernel
theorem dX0_init_33 : decode cX0_init 33 = .ok (.putfield 29, 3) := by decide +kernel
theorem dX0_init_36 : decode cX0_init 36 = .ok (.aload_n 0, 1) := by decide +kernel
theorem dX0_init_37 : decode cX0_init 37 = .ok (.new 33, 3) := by decide +kernel
theorem dX0_init_40 : decode cX0_init 40 = .ok (.dup, 1) := by decide +kernel
theorem dX0_init_41 : decode cX0_init 41 = .ok (.invokespecial 35, 3) := by decide +kernel
theorem dX0_init_44 : decode cX0_init 44 = .ok (.putfield 36, 3) := by decide +kernel
theorem dX0_init_47 : decode cX0_init 47 = .ok (.aload_n 0, 1) := by decide +kernel
theorem dX0_init_48 : decode cX0_init 48 = .ok (.new 40, 3) := by decide +kernel
theorem dX0_init_51 : decode cX0_init 51 = .ok (.dup, 1) := by decide +kernel
theorem dX0_init_52 : decode cX0_init 52 = .ok (.invokespecial 42, 3) := by decide +kernel
theorem dX0_init_55 : decode cX0_init 55 = .ok (.putfield 43, 3) := by decide +kernel
theorem dX0_init_58 : decode cX0_init 58 = .ok (.return_, 1) := by decide +kernel
theorem dX0_loanOf_0 : decode cX0_loanOf 0 = .ok (.iload_n 1, 1) := by decide +kernel
theorem dX0_loanOf_1 : decode cX0_loanOf 1 = .ok (.ifCond .lt 20, 3) := by decide +kernel
theorem dX0_loanOf_4 : decode cX0_loanOf 4 = .ok (.iload_n 1, 1) := by decide +kernel
theorem dX0_loanOf_5 : decode cX0_loanOf 5 = .ok (.aload_n 0, 1) := by decide +kernel
theorem dX0_loanOf_6 : decode cX0_loanOf 6 = .ok (.getfield 15, 3) := by decide +kernel
theorem dX0_loanOf_9 : decode cX0_loanOf 9 = .ok (.if_icmp .ge 12, 3) := by decide +kernel
theorem dX0_loanOf_12 : decode cX0_loanOf 12 = .ok (.aload_n 0, 1) := by decide +kernel
theorem dX0_loanOf_13 : decode cX0_loanOf 13 = .ok (.getfield 23, 3) := by decide +kernel
theorem dX0_loanOf_16 : decode cX0_loanOf 16 = .ok (.iload_n 1, 1) := by decide +kernel
theorem dX0_loanOf_17 : decode cX0_loanOf 17 = .ok (.aaload, 1) := by decide +kernel
theorem dX0_loanOf_18 : decode cX0_loanOf 18 = .ok (.goto 4, 3) := by decide +kernel
theorem dX0_loanOf_21 : decode cX0_loanOf 21 = .ok (.aconst_null, 1) := by decide +kernel
theorem dX0_loanOf_22 : decode cX0_loanOf 22 = .ok (.areturn, 1) := by decide +kernel
theorem dX0_termOf_0 : decode cX0_termOf 0 = .ok (.iload_n 1, 1) := by decide +kernel
theorem dX0_termOf_1 : decode cX0_termOf 1 = .ok (.ifCond .lt 20, 3) := by decide +kernel
theorem dX0_termOf_4 : decode cX0_termOf 4 = .ok (.iload_n 1, 1) := by decide +kernel
theorem dX0_termOf_5 : decode cX0_termOf 5 = .ok (.aload_n 0, 1) := by decide +kernel
theorem dX0_termOf_6 : decode cX0_termOf 6 = .ok (.getfield 18, 3) := by decide +kernel
theorem dX0_termOf_9 : decode cX0_termOf 9 = .ok (.if_icmp .ge 12, 3) := by decide +kernel
theorem dX0_termOf_12 : decode cX0_termOf 12 = .ok (.aload_n 0, 1) := by decide +kernel
theorem dX0_termOf_13 : decode cX0_termOf 13 = .ok (.getfield 29, 3) := by decide +kernel
theorem dX0_termOf_16 : decode cX0_termOf 16 = .ok (.iload_n 1, 1) := by decide +kernel
theorem dX0_termOf_17 : decode cX0_termOf 17 = .ok (.aaload, 1) := by decide +kernel
theorem dX0_termOf_18 : decode cX0_termOf 18 = .ok (.goto 4, 3) := by decide +kernel
theorem dX0_termOf_21 : decode cX0_termOf 21 = .ok (.aconst_null, 1) := by decide +kernel
theorem dX0_termOf_22 : decode cX0_termOf 22 = .ok (.areturn, 1) := by decide +kernel
theorem dX0_lend_0 : decode cX0_lend 0 = .ok (.aload_n 0, 1) := by decide +kernel
theorem dX0_lend_1 : decode cX0_lend 1 = .ok (.getfield 15, 3) := by decide +kernel
theorem dX0_lend_4 : decode cX0_lend 4 = .ok (.istore 4, 2) := by decide +kernel
theorem dX0_lend_6 : decode cX0_lend 6 = .ok (.aload_n 0, 1) := by decide +kernel
theorem dX0_lend_7 : decode cX0_lend 7 = .ok (.getfield 23, 3) := by decide +kernel
theorem dX0_lend_10 : decode cX0_lend 10 = .ok (.iload 4, 2) := by decide +kernel
theorem dX0_lend_12 : decode cX0_lend 12 = .ok (.new 21, 3) := by decide +kernel
theorem dX0_lend_15 : decode cX0_lend 15 = .ok (.dup, 1) := by decide +kernel
theorem dX0_lend_16 : decode cX0_lend 16 = .ok (.aload_n 0, 1) := by decide +kernel
theorem dX0_lend_17 : decode cX0_lend 17 = .ok (.getfield 9, 3) := by decide +kernel
theorem dX0_lend_20 : decode cX0_lend 20 = .ok (.iload_n 1, 1) := by decide +kernel
theorem dX0_lend_21 : decode cX0_lend 21 = .ok (.iload_n 2, 1) := by decide +kernel
theorem dX0_lend_22 : decode cX0_lend 22 = .ok (.iload_n 3, 1) := by decide +kernel
theorem dX0_lend_23 : decode cX0_lend 23 = .ok (.invokespecial 47, 3) := by decide +kernel
theorem dX0_lend_26 : decode cX0_lend 26 = .ok (.aastore, 1) := by decide +kernel
theorem dX0_lend_27 : decode cX0_lend 27 = .ok (.aload_n 0, 1) := by decide +kernel
theorem dX0_lend_28 : decode cX0_lend 28 = .ok (.iload 4, 2) := by decide +kernel
theorem dX0_lend_30 : decode cX0_lend 30 = .ok (.iconst 1, 1) := by decide +kernel
theorem dX0_lend_31 : decode cX0_lend 31 = .ok (.iadd, 1) := by decide +kernel
theorem dX0_lend_32 : decode cX0_lend 32 = .ok (.putfield 15, 3) := by decide +kernel
theorem dX0_lend_35 : decode cX0_lend 35 = .ok (.iload 4, 2) := by decide +kernel
theorem dX0_lend_37 : decode cX0_lend 37 = .ok (.ireturn, 1) := by decide +kernel
theorem dX0_agree_0 : decode cX0_agree 0 = .ok (.aload_n 0, 1) := by decide +kernel
theorem dX0_agree_1 : decode cX0_agree 1 = .ok (.getfield 18, 3) := by decide +kernel
theorem dX0_agree_4 : decode cX0_agree 4 = .ok (.istore_n 2, 1) := by decide +kernel
theorem dX0_agree_5 : decode cX0_agree 5 = .ok (.aload_n 0, 1) := by decide +kernel
theorem dX0_agree_6 : decode cX0_agree 6 = .ok (.getfield 29, 3) := by decide +kernel
theorem dX0_agree_9 : decode cX0_agree 9 = .ok (.iload_n 2, 1) := by decide +kernel
theorem dX0_agree_10 : decode cX0_agree 10 = .ok (.new 27, 3) := by decide +kernel
theorem dX0_agree_13 : decode cX0_agree 13 = .ok (.dup, 1) := by decide +kernel
theorem dX0_agree_14 : decode cX0_agree 14 = .ok (.iload_n 1, 1) := by decide +kernel
theorem dX0_agree_15 : decode cX0_agree 15 = .ok (.invokespecial 50, 3) := by decide +kernel
theorem dX0_agree_18 : decode cX0_agree 18 = .ok (.aastore, 1) := by decide +kernel
theorem dX0_agree_19 : decode cX0_agree 19 = .ok (.aload_n 0, 1) := by decide +kernel
theorem dX0_agree_20 : decode cX0_agree 20 = .ok (.iload_n 2, 1) := by decide +kernel
theorem dX0_agree_21 : decode cX0_agree 21 = .ok (.iconst 1, 1) := by decide +kernel
theorem dX0_agree_22 : decode cX0_agree 22 = .ok (.iadd, 1) := by decide +kernel
theorem dX0_agree_23 : decode cX0_agree 23 = .ok (.putfield 18, 3) := by decide +kernel
theorem dX0_agree_26 : decode cX0_agree 26 = .ok (.iload_n 2, 1) := by decide +kernel
theorem dX0_agree_27 : decode cX0_agree 27 = .ok (.ireturn, 1) := by decide +kernel
theorem dX0_nextMonth_0 : decode cX0_nextMonth 0 = .ok (.aload_n 0, 1) := by decide +kernel
theorem dX0_nextMonth_1 : decode cX0_nextMonth 1 = .ok (.dup, 1) := by decide +kernel
theorem dX0_nextMonth_2 : decode cX0_nextMonth 2 = .ok (.getfield 9, 3) := by decide +kernel
theorem dX0_nextMonth_5 : decode cX0_nextMonth 5 = .ok (.iconst 1, 1) := by decide +kernel
theorem dX0_nextMonth_6 : decode cX0_nextMonth 6 = .ok (.iadd, 1) := by decide +kernel
theorem dX0_nextMonth_7 : decode cX0_nextMonth 7 = .ok (.putfield 9, 3) := by decide +kernel
theorem dX0_nextMonth_10 : decode cX0_nextMonth 10 = .ok (.iconst 0, 1) := by decide +kernel
theorem dX0_nextMonth_11 : decode cX0_nextMonth 11 = .ok (.istore_n 1, 1) := by decide +kernel
theorem dX0_nextMonth_12 : decode cX0_nextMonth 12 = .ok (.iload_n 1, 1) := by decide +kernel
theorem dX0_nextMonth_13 : decode cX0_nextMonth 13 = .ok (.aload_n 0, 1) := by decide +kernel
theorem dX0_nextMonth_14 : decode cX0_nextMonth 14 = .ok (.getfield 15, 3) := by decide +kernel
theorem dX0_nextMonth_17 : decode cX0_nextMonth 17 = .ok (.if_icmp .ge 35, 3) := by decide +kernel
theorem dX0_nextMonth_20 : decode cX0_nextMonth 20 = .ok (.aload_n 0, 1) := by decide +kernel
theorem dX0_nextMonth_21 : decode cX0_nextMonth 21 = .ok (.getfield 23, 3) := by decide +kernel
theorem dX0_nextMonth_24 : decode cX0_nextMonth 24 = .ok (.iload_n 1, 1) := by decide +kernel
theorem dX0_nextMonth_25 : decode cX0_nextMonth 25 = .ok (.aaload, 1) := by decide +kernel
theorem dX0_nextMonth_26 : decode cX0_nextMonth 26 = .ok (.astore_n 2, 1) := by decide +kernel
theorem dX0_nextMonth_27 : decode cX0_nextMonth 27 = .ok (.aload_n 2, 1) := by decide +kernel
theorem dX0_nextMonth_28 : decode cX0_nextMonth 28 = .ok (.ifnull 18, 3) := by decide +kernel
theorem dX0_nextMonth_31 : decode cX0_nextMonth 31 = .ok (.aload_n 2, 1) := by decide +kernel
theorem dX0_nextMonth_32 : decode cX0_nextMonth 32 = .ok (.invokevirtual 53, 3) := by decide +kernel
theorem dX0_nextMonth_35 : decode cX0_nextMonth 35 = .ok (.ifCond .eq 11, 3) := by decide +kernel
theorem dX0_nextMonth_38 : decode cX0_nextMonth 38 = .ok (.aload_n 2, 1) := by decide +kernel
theorem dX0_nextMonth_39 : decode cX0_nextMonth 39 = .ok (.aload_n 0, 1) := by decide +kernel
theorem dX0_nextMonth_40 : decode cX0_nextMonth 40 = .ok (.getfield 9, 3) := by decide +kernel
theorem dX0_nextMonth_43 : decode cX0_nextMonth 43 = .ok (.invokevirtual 57, 3) := by decide +kernel
theorem dX0_nextMonth_46 : decode cX0_nextMonth 46 = .ok (.iinc 1 1, 3) := by decide +kernel
theorem dX0_nextMonth_49 : decode cX0_nextMonth 49 = .ok (.goto (-37), 3) := by decide +kernel
theorem dX0_nextMonth_52 : decode cX0_nextMonth 52 = .ok (.return_, 1) := by decide +kernel
theorem dX0_openLoans_0 : decode cX0_openLoans 0 = .ok (.iconst 0, 1) := by decide +kernel
theorem dX0_openLoans_1 : decode cX0_openLoans 1 = .ok (.istore_n 1, 1) := by decide +kernel
theorem dX0_openLoans_2 : decode cX0_openLoans 2 = .ok (.iconst 0, 1) := by decide +kernel
theorem dX0_openLoans_3 : decode cX0_openLoans 3 = .ok (.istore_n 2, 1) := by decide +kernel
theorem dX0_openLoans_4 : decode cX0_openLoans 4 = .ok (.iload_n 2, 1) := by decide +kernel
theorem dX0_openLoans_5 : decode cX0_openLoans 5 = .ok (.aload_n 0, 1) := by decide +kernel
theorem dX0_openLoans_6 : decode cX0_openLoans 6 = .ok (.getfield 15, 3) := by decide +kernel
theorem dX0_openLoans_9 : decode cX0_openLoans 9 = .ok (.if_icmp .ge 30, 3) := by decide +kernel
theorem dX0_openLoans_12 : decode cX0_openLoans 12 = .ok (.aload_n 0, 1) := by decide +kernel
theorem dX0_openLoans_13 : decode cX0_openLoans 13 = .ok (.getfield 23, 3) := by decide +kernel
theorem dX0_openLoans_16 : decode cX0_openLoans 16 = .ok (.iload_n 2, 1) := by decide +kernel
theorem dX0_openLoans_17 : decode cX0_openLoans 17 = .ok (.aaload, 1) := by decide +kernel
theorem dX0_openLoans_18 : decode cX0_openLoans 18 = .ok (.astore_n 3, 1) := by decide +kernel
theorem dX0_openLoans_19 : decode cX0_openLoans 19 = .ok (.aload_n 3, 1) := by decide +kernel
theorem dX0_openLoans_20 : decode cX0_openLoans 20 = .ok (.ifnull 13, 3) := by decide +kernel
theorem dX0_openLoans_23 : decode cX0_openLoans 23 = .ok (.aload_n 3, 1) := by decide +kernel
theorem dX0_openLoans_24 : decode cX0_openLoans 24 = .ok (.invokevirtual 53, 3) := by decide +kernel
theorem dX0_openLoans_27 : decode cX0_openLoans 27 = .ok (.ifCond .eq 6, 3) := by decide +kernel
theorem dX0_openLoans_30 : decode cX0_openLoans 30 = .ok (.iinc 1 1, 3) := by decide +kernel
theorem dX0_openLoans_33 : decode cX0_openLoans 33 = .ok (.iinc 2 1, 3) := by decide +kernel
theorem dX0_openLoans_36 : decode cX0_openLoans 36 = .ok (.goto (-32), 3) := by decide +kernel
theorem dX0_openLoans_39 : decode cX0_openLoans 39 = .ok (.iload_n 1, 1) := by decide +kernel
theorem dX0_openLoans_40 : decode cX0_openLoans 40 = .ok (.ireturn, 1) := by decide +kernel
theorem dX0_termIn_0 : decode cX0_termIn 0 = .ok (.ldc 60, 2) := by decide +kernel
theorem dX0_termIn_2 : decode cX0_termIn 2 = .ok (.istore_n 2, 1) := by decide +kernel
theorem dX0_termIn_3 : decode cX0_termIn 3 = .ok (.iconst 0, 1) := by decide +kernel
theorem dX0_termIn_4 : decode cX0_termIn 4 = .ok (.istore_n 3, 1) := by decide +kernel
theorem dX0_termIn_5 : decode cX0_termIn 5 = .ok (.iconst 0, 1) := by decide +kernel
theorem dX0_termIn_6 : decode cX0_termIn 6 = .ok (.istore 4, 2) := by decide +kernel
theorem dX0_termIn_8 : decode cX0_termIn 8 = .ok (.iload 4, 2) := by decide +kernel
theorem dX0_termIn_10 : decode cX0_termIn 10 = .ok (.aload_n 0, 1) := by decide +kernel
theorem dX0_termIn_11 : decode cX0_termIn 11 = .ok (.getfield 18, 3) := by decide +kernel
theorem dX0_termIn_14 : decode cX0_termIn 14 = .ok (.if_icmp .ge 60, 3) := by decide +kernel
theorem dX0_termIn_17 : decode cX0_termIn 17 = .ok (.aload_n 0, 1) := by decide +kernel
theorem dX0_termIn_18 : decode cX0_termIn 18 = .ok (.getfield 29, 3) := by decide +kernel
theorem dX0_termIn_21 : decode cX0_termIn 21 = .ok (.iload 4, 2) := by decide +kernel
theorem dX0_termIn_23 : decode cX0_termIn 23 = .ok (.aaload, 1) := by decide +kernel
theorem dX0_termIn_24 : decode cX0_termIn 24 = .ok (.astore 5, 2) := by decide +kernel
theorem dX0_termIn_26 : decode cX0_termIn 26 = .ok (.aload 5, 2) := by decide +kernel
theorem dX0_termIn_28 : decode cX0_termIn 28 = .ok (.ifnull 40, 3) := by decide +kernel
theorem dX0_termIn_31 : decode cX0_termIn 31 = .ok (.aload 5, 2) := by decide +kernel
theorem dX0_termIn_33 : decode cX0_termIn 33 = .ok (.getfield 61, 3) := by decide +kernel
theorem dX0_termIn_36 : decode cX0_termIn 36 = .ok (.ldc 60, 2) := by decide +kernel
theorem dX0_termIn_38 : decode cX0_termIn 38 = .ok (.if_icmp .ne 30, 3) := by decide +kernel
theorem dX0_termIn_41 : decode cX0_termIn 41 = .ok (.aload 5, 2) := by decide +kernel
theorem dX0_termIn_43 : decode cX0_termIn 43 = .ok (.getfield 64, 3) := by decide +kernel
theorem dX0_termIn_46 : decode cX0_termIn 46 = .ok (.iload_n 1, 1) := by decide +kernel
theorem dX0_termIn_47 : decode cX0_termIn 47 = .ok (.if_icmp .gt 21, 3) := by decide +kernel
theorem dX0_termIn_50 : decode cX0_termIn 50 = .ok (.aload 5, 2) := by decide +kernel
theorem dX0_termIn_52 : decode cX0_termIn 52 = .ok (.getfield 64, 3) := by decide +kernel
theorem dX0_termIn_55 : decode cX0_termIn 55 = .ok (.iload_n 3, 1) := by decide +kernel
theorem dX0_termIn_56 : decode cX0_termIn 56 = .ok (.if_icmp .lt 12, 3) := by decide +kernel
theorem dX0_termIn_59 : decode cX0_termIn 59 = .ok (.iload 4, 2) := by decide +kernel
theorem dX0_termIn_61 : decode cX0_termIn 61 = .ok (.istore_n 2, 1) := by decide +kernel
theorem dX0_termIn_62 : decode cX0_termIn 62 = .ok (.aload 5, 2) := by decide +kernel
theorem dX0_termIn_64 : decode cX0_termIn 64 = .ok (.getfield 64, 3) := by decide +kernel
theorem dX0_termIn_67 : decode cX0_termIn 67 = .ok (.istore_n 3, 1) := by decide +kernel
theorem dX0_termIn_68 : decode cX0_termIn 68 = .ok (.iinc 4 1, 3) := by decide +kernel
theorem dX0_termIn_71 : decode cX0_termIn 71 = .ok (.goto (-63), 3) := by decide +kernel
theorem dX0_termIn_74 : decode cX0_termIn 74 = .ok (.iload_n 2, 1) := by decide +kernel
theorem dX0_termIn_75 : decode cX0_termIn 75 = .ok (.ireturn, 1) := by decide +kernel
theorem dX0_allowsNow_0 : decode cX0_allowsNow 0 = .ok (.aload_n 1, 1) := by decide +kernel
theorem dX0_allowsNow_1 : decode cX0_allowsNow 1 = .ok (.invokevirtual 53, 3) := by decide +kernel
theorem dX0_allowsNow_4 : decode cX0_allowsNow 4 = .ok (.ifCond .eq 26, 3) := by decide +kernel
theorem dX0_allowsNow_7 : decode cX0_allowsNow 7 = .ok (.aload_n 0, 1) := by decide +kernel
theorem dX0_allowsNow_8 : decode cX0_allowsNow 8 = .ok (.aload_n 1, 1) := by decide +kernel
theorem dX0_allowsNow_9 : decode cX0_allowsNow 9 = .ok (.getfield 67, 3) := by decide +kernel
theorem dX0_allowsNow_12 : decode cX0_allowsNow 12 = .ok (.aload_n 0, 1) := by decide +kernel
theorem dX0_allowsNow_13 : decode cX0_allowsNow 13 = .ok (.getfield 9, 3) := by decide +kernel
theorem dX0_allowsNow_16 : decode cX0_allowsNow 16 = .ok (.aload_n 1, 1) := by decide +kernel
theorem dX0_allowsNow_17 : decode cX0_allowsNow 17 = .ok (.getfield 70, 3) := by decide +kernel
theorem dX0_allowsNow_20 : decode cX0_allowsNow 20 = .ok (.invokevirtual 73, 3) := by decide +kernel
theorem dX0_allowsNow_23 : decode cX0_allowsNow 23 = .ok (.ifCond .eq 7, 3) := by decide +kernel
theorem dX0_allowsNow_26 : decode cX0_allowsNow 26 = .ok (.iconst 1, 1) := by decide +kernel
theorem dX0_allowsNow_27 : decode cX0_allowsNow 27 = .ok (.goto 4, 3) := by decide +kernel
theorem dX0_allowsNow_30 : decode cX0_allowsNow 30 = .ok (.iconst 0, 1) := by decide +kernel
theorem dX0_allowsNow_31 : decode cX0_allowsNow 31 = .ok (.ireturn, 1) := by decide +kernel
theorem dX0_monthsUntilAllowed_0 : decode cX0_monthsUntilAllowed 0 = .ok (.aload_n 0, 1) := by decide +kernel
theorem dX0_monthsUntilAllowed_1 : decode cX0_monthsUntilAllowed 1 = .ok (.getfield 36, 3) := by decide +kernel
theorem dX0_monthsUntilAllowed_4 : decode cX0_monthsUntilAllowed 4 = .ok (.aload_n 1, 1) := by decide +kernel
theorem dX0_monthsUntilAllowed_5 : decode cX0_monthsUntilAllowed 5 = .ok (.getfield 67, 3) := by decide +kernel
theorem dX0_monthsUntilAllowed_8 : decode cX0_monthsUntilAllowed 8 = .ok (.invokevirtual 77, 3) := by decide +kernel
theorem dX0_monthsUntilAllowed_11 : decode cX0_monthsUntilAllowed 11 = .ok (.bipush 120, 2) := by decide +kernel
theorem dX0_monthsUntilAllowed_13 : decode cX0_monthsUntilAllowed 13 = .ok (.sipush 599, 3) := by decide +kernel
theorem dX0_monthsUntilAllowed_16 : decode cX0_monthsUntilAllowed 16 = .ok (.aload_n 0, 1) := by decide +kernel
theorem dX0_monthsUntilAllowed_17 : decode cX0_monthsUntilAllowed 17 = .ok (.getfield 9, 3) := by decide +kernel
theorem dX0_monthsUntilAllowed_20 : decode cX0_monthsUntilAllowed 20 = .ok (.isub, 1) := by decide +kernel
theorem dX0_monthsUntilAllowed_21 : decode cX0_monthsUntilAllowed 21 = .ok (.invokestatic 81, 3) := by decide +kernel
theorem dX0_monthsUntilAllowed_24 : decode cX0_monthsUntilAllowed 24 = .ok (.istore_n 2, 1) := by decide +kernel
theorem dX0_monthsUntilAllowed_25 : decode cX0_monthsUntilAllowed 25 = .ok (.iconst 0, 1) := by decide +kernel
theorem dX0_monthsUntilAllowed_26 : decode cX0_monthsUntilAllowed 26 = .ok (.istore_n 3, 1) := by decide +kernel
theorem dX0_monthsUntilAllowed_27 : decode cX0_monthsUntilAllowed 27 = .ok (.iload_n 3, 1) := by decide +kernel
theorem dX0_monthsUntilAllowed_28 : decode cX0_monthsUntilAllowed 28 = .ok (.iload_n 2, 1) := by decide +kernel
theorem dX0_monthsUntilAllowed_29 : decode cX0_monthsUntilAllowed 29 = .ok (.if_icmp .gt 39, 3) := by decide +kernel
theorem dX0_monthsUntilAllowed_32 : decode cX0_monthsUntilAllowed 32 = .ok (.aload_n 0, 1) := by decide +kernel
theorem dX0_monthsUntilAllowed_33 : decode cX0_monthsUntilAllowed 33 = .ok (.aload_n 0, 1) := by decide +kernel
theorem dX0_monthsUntilAllowed_34 : decode cX0_monthsUntilAllowed 34 = .ok (.getfield 36, 3) := by decide +kernel
theorem dX0_monthsUntilAllowed_37 : decode cX0_monthsUntilAllowed 37 = .ok (.aload_n 0, 1) := by decide +kernel
theorem dX0_monthsUntilAllowed_38 : decode cX0_monthsUntilAllowed 38 = .ok (.getfield 9, 3) := by decide +kernel
theorem dX0_monthsUntilAllowed_41 : decode cX0_monthsUntilAllowed 41 = .ok (.iload_n 3, 1) := by decide +kernel
theorem dX0_monthsUntilAllowed_42 : decode cX0_monthsUntilAllowed 42 = .ok (.iadd, 1) := by decide +kernel
theorem dX0_monthsUntilAllowed_43 : decode cX0_monthsUntilAllowed 43 = .ok (.aload_n 1, 1) := by decide +kernel
theorem dX0_monthsUntilAllowed_44 : decode cX0_monthsUntilAllowed 44 = .ok (.getfield 70, 3) := by decide +kernel
theorem dX0_monthsUntilAllowed_47 : decode cX0_monthsUntilAllowed 47 = .ok (.invokevirtual 73, 3) := by decide +kernel
theorem dX0_monthsUntilAllowed_50 : decode cX0_monthsUntilAllowed 50 = .ok (.ifCond .eq 5, 3) := by decide +kernel
theorem dX0_monthsUntilAllowed_53 : decode cX0_monthsUntilAllowed 53 = .ok (.iload_n 3, 1) := by decide +kernel
theorem dX0_monthsUntilAllowed_54 : decode cX0_monthsUntilAllowed 54 = .ok (.ireturn, 1) := by decide +kernel
theorem dX0_monthsUntilAllowed_55 : decode cX0_monthsUntilAllowed 55 = .ok (.aload_n 0, 1) := by decide +kernel
theorem dX0_monthsUntilAllowed_56 : decode cX0_monthsUntilAllowed 56 = .ok (.getfield 36, 3) := by decide +kernel
theorem dX0_monthsUntilAllowed_59 : decode cX0_monthsUntilAllowed 59 = .ok (.invokevirtual 87, 3) := by decide +kernel
theorem dX0_monthsUntilAllowed_62 : decode cX0_monthsUntilAllowed 62 = .ok (.iinc 3 1, 3) := by decide +kernel
theorem dX0_monthsUntilAllowed_65 : decode cX0_monthsUntilAllowed 65 = .ok (.goto (-38), 3) := by decide +kernel
theorem dX0_monthsUntilAllowed_68 : decode cX0_monthsUntilAllowed 68 = .ok (.ldc 60, 2) := by decide +kernel
theorem dX0_monthsUntilAllowed_70 : decode cX0_monthsUntilAllowed 70 = .ok (.ireturn, 1) := by decide +kernel
theorem dX0_allows_0 : decode cX0_allows 0 = .ok (.aload_n 0, 1) := by decide +kernel
theorem dX0_allows_1 : decode cX0_allows 1 = .ok (.aload_n 0, 1) := by decide +kernel
theorem dX0_allows_2 : decode cX0_allows 2 = .ok (.iload_n 2, 1) := by decide +kernel
theorem dX0_allows_3 : decode cX0_allows 3 = .ok (.invokevirtual 90, 3) := by decide +kernel
theorem dX0_allows_6 : decode cX0_allows 6 = .ok (.invokevirtual 94, 3) := by decide +kernel
theorem dX0_allows_9 : decode cX0_allows 9 = .ok (.astore 4, 2) := by decide +kernel
theorem dX0_allows_11 : decode cX0_allows 11 = .ok (.aload 4, 2) := by decide +kernel
theorem dX0_allows_13 : decode cX0_allows 13 = .ok (.ifnull 23, 3) := by decide +kernel
theorem dX0_allows_16 : decode cX0_allows 16 = .ok (.aload 4, 2) := by decide +kernel
theorem dX0_allows_18 : decode cX0_allows 18 = .ok (.aload_n 1, 1) := by decide +kernel
theorem dX0_allows_19 : decode cX0_allows 19 = .ok (.iload_n 2, 1) := by decide +kernel
theorem dX0_allows_20 : decode cX0_allows 20 = .ok (.iload_n 3, 1) := by decide +kernel
theorem dX0_allows_21 : decode cX0_allows 21 = .ok (.isub, 1) := by decide +kernel
theorem dX0_allows_22 : decode cX0_allows 22 = .ok (.aload_n 0, 1) := by decide +kernel
theorem dX0_allows_23 : decode cX0_allows 23 = .ok (.getfield 43, 3) := by decide +kernel
theorem dX0_allows_26 : decode cX0_allows 26 = .ok (.invokevirtual 98, 3) := by decide +kernel
theorem dX0_allows_29 : decode cX0_allows 29 = .ok (.ifCond .eq 7, 3) := by decide +kernel
theorem dX0_allows_32 : decode cX0_allows 32 = .ok (.iconst 1, 1) := by decide +kernel
theorem dX0_allows_33 : decode cX0_allows 33 = .ok (.goto 4, 3) := by decide +kernel
theorem dX0_allows_36 : decode cX0_allows 36 = .ok (.iconst 0, 1) := by decide +kernel
theorem dX0_allows_37 : decode cX0_allows 37 = .ok (.ireturn, 1) := by decide +kernel
theorem dX1_init_0 : decode cX1_init 0 = .ok (.aload_n 0, 1) := by decide +kernel
theorem dX1_init_1 : decode cX1_init 1 = .ok (.invokespecial 3, 3) := by decide +kernel
theorem dX1_init_4 : decode cX1_init 4 = .ok (.aload_n 0, 1) := by decide +kernel
theorem dX1_init_5 : decode cX1_init 5 = .ok (.iconst 2, 1) := by decide +kernel
theorem dX1_init_6 : decode cX1_init 6 = .ok (.newarray .int, 2) := by decide +kernel
theorem dX1_init_8 : decode cX1_init 8 = .ok (.dup, 1) := by decide +kernel
theorem dX1_init_9 : decode cX1_init 9 = .ok (.iconst 0, 1) := by decide +kernel
theorem dX1_init_10 : decode cX1_init 10 = .ok (.sipush 600, 3) := by decide +kernel
theorem dX1_init_13 : decode cX1_init 13 = .ok (.iastore, 1) := by decide +kernel
theorem dX1_init_14 : decode cX1_init 14 = .ok (.dup, 1) := by decide +kernel
theorem dX1_init_15 : decode cX1_init 15 = .ok (.iconst 1, 1) := by decide +kernel
theorem dX1_init_16 : decode cX1_init 16 = .ok (.sipush 600, 3) := by decide +kernel
theorem dX1_init_19 : decode cX1_init 19 = .ok (.iastore, 1) := by decide +kernel
theorem dX1_init_20 : decode cX1_init 20 = .ok (.putfield 9, 3) := by decide +kernel
theorem dX1_init_23 : decode cX1_init 23 = .ok (.aload_n 0, 1) := by decide +kernel
theorem dX1_init_24 : decode cX1_init 24 = .ok (.iconst 1, 1) := by decide +kernel
theorem dX1_init_25 : decode cX1_init 25 = .ok (.putfield 15, 3) := by decide +kernel
theorem dX1_init_28 : decode cX1_init 28 = .ok (.aload_n 0, 1) := by decide +kernel
theorem dX1_init_29 : decode cX1_init 29 = .ok (.ldc 19, 2) := by decide +kernel
theorem dX1_init_31 : decode cX1_init 31 = .ok (.putfield 20, 3) := by decide +kernel
theorem dX1_init_34 : decode cX1_init 34 = .ok (.aload_n 0, 1) := by decide +kernel
theorem dX1_init_35 : decode cX1_init 35 = .ok (.iconst 0, 1) := by decide +kernel
theorem dX1_init_36 : decode cX1_init 36 = .ok (.putfield 24, 3) := by decide +kernel
theorem dX1_init_39 : decode cX1_init 39 = .ok (.aload_n 0, 1) := by decide +kernel
theorem dX1_init_40 : decode cX1_init 40 = .ok (.iconst 0, 1) := by decide +kernel
theorem dX1_init_41 : decode cX1_init 41 = .ok (.putfield 27, 3) := by decide +kernel
theorem dX1_init_44 : decode cX1_init 44 = .ok (.aload_n 0, 1) := by decide +kernel
theorem dX1_init_45 : decode cX1_init 45 = .ok (.bipush 12, 2) := by decide +kernel
theorem dX1_init_47 : decode cX1_init 47 = .ok (.newarray .int, 2) := by decide +kernel
theorem dX1_init_49 : decode cX1_init 49 = .ok (.putfield 30, 3) := by decide +kernel
theorem dX1_init_52 : decode cX1_init 52 = .ok (.aload_n 0, 1) := by decide +kernel
theorem dX1_init_53 : decode cX1_init 53 = .ok (.bipush 12, 2) := by decide +kernel
theorem dX1_init_55 : decode cX1_init 55 = .ok (.newarray .int, 2) := by decide +kernel
theorem dX1_init_57 : decode cX1_init 57 = .ok (.putfield 33, 3) := by decide +kernel
theorem dX1_init_60 : decode cX1_init 60 = .ok (.aload_n 0, 1) := by decide +kernel
theorem dX1_init_61 : decode cX1_init 61 = .ok (.iconst 2, 1) := by decide +kernel
theorem dX1_init_62 : decode cX1_init 62 = .ok (.newarray .int, 2) := by decide +kernel
theorem dX1_init_64 : decode cX1_init 64 = .ok (.putfield 36, 3) := by decide +kernel
theorem dX1_init_67 : decode cX1_init 67 = .ok (.return_, 1) := by decide +kernel
theorem dX1_seekBest_0 : decode cX1_seekBest 0 = .ok (.aload_n 0, 1) := by decide +kernel
theorem dX1_seekBest_1 : decode cX1_seekBest 1 = .ok (.iload_n 1, 1) := by decide +kernel
theorem dX1_seekBest_2 : decode cX1_seekBest 2 = .ok (.putfield 27, 3) := by decide +kernel
theorem dX1_seekBest_5 : decode cX1_seekBest 5 = .ok (.iconst 0, 1) := by decide +kernel
theorem dX1_seekBest_6 : decode cX1_seekBest 6 = .ok (.istore 4, 2) := by decide +kernel
theorem dX1_seekBest_8 : decode cX1_seekBest 8 = .ok (.iconst 0, 1) := by decide +kernel
theorem dX1_seekBest_9 : decode cX1_seekBest 9 = .ok (.istore 5, 2) := by decide +kernel
theorem dX1_seekBest_11 : decode cX1_seekBest 11 = .ok (.iload 5, 2) := by decide +kernel
theorem dX1_seekBest_13 : decode cX1_seekBest 13 = .ok (.iload_n 1, 1) := by decide +kernel
theorem dX1_seekBest_14 : decode cX1_seekBest 14 = .ok (.if_icmp .ge 53, 3) := by decide +kernel
theorem dX1_seekBest_17 : decode cX1_seekBest 17 = .ok (.aload_n 3, 1) := by decide +kernel
theorem dX1_seekBest_18 : decode cX1_seekBest 18 = .ok (.iload 5, 2) := by decide +kernel
theorem dX1_seekBest_20 : decode cX1_seekBest 20 = .ok (.iaload, 1) := by decide +kernel
theorem dX1_seekBest_21 : decode cX1_seekBest 21 = .ok (.istore 6, 2) := by decide +kernel
theorem dX1_seekBest_23 : decode cX1_seekBest 23 = .ok (.aload_n 0, 1) := by decide +kernel
theorem dX1_seekBest_24 : decode cX1_seekBest 24 = .ok (.getfield 30, 3) := by decide +kernel
theorem dX1_seekBest_27 : decode cX1_seekBest 27 = .ok (.iload 6, 2) := by decide +kernel
theorem dX1_seekBest_29 : decode cX1_seekBest 29 = .ok (.aload_n 2, 1) := by decide +kernel
theorem dX1_seekBest_30 : decode cX1_seekBest 30 = .ok (.iload 6, 2) := by decide +kernel
theorem dX1_seekBest_32 : decode cX1_seekBest 32 = .ok (.iaload, 1) := by decide +kernel
theorem dX1_seekBest_33 : decode cX1_seekBest 33 = .ok (.iastore, 1) := by decide +kernel
theorem dX1_seekBest_34 : decode cX1_seekBest 34 = .ok (.aload_n 0, 1) := by decide +kernel
theorem dX1_seekBest_35 : decode cX1_seekBest 35 = .ok (.getfield 33, 3) := by decide +kernel
theorem dX1_seekBest_38 : decode cX1_seekBest 38 = .ok (.iload 6, 2) := by decide +kernel
theorem dX1_seekBest_40 : decode cX1_seekBest 40 = .ok (.iconst 1, 1) := by decide +kernel
theorem dX1_seekBest_41 : decode cX1_seekBest 41 = .ok (.iload 6, 2) := by decide +kernel
theorem dX1_seekBest_43 : decode cX1_seekBest 43 = .ok (.ishl, 1) := by decide +kernel
theorem dX1_seekBest_44 : decode cX1_seekBest 44 = .ok (.iconst 1, 1) := by decide +kernel
theorem dX1_seekBest_45 : decode cX1_seekBest 45 = .ok (.isub, 1) := by decide +kernel
theorem dX1_seekBest_46 : decode cX1_seekBest 46 = .ok (.iload 4, 2) := by decide +kernel
theorem dX1_seekBest_48 : decode cX1_seekBest 48 = .ok (.iconst (-1), 1) := by decide +kernel
theorem dX1_seekBest_49 : decode cX1_seekBest 49 = .ok (.ixor, 1) := by decide +kernel
theorem dX1_seekBest_50 : decode cX1_seekBest 50 = .ok (.iand, 1) := by decide +kernel
theorem dX1_seekBest_51 : decode cX1_seekBest 51 = .ok (.iastore, 1) := by decide +kernel
theorem dX1_seekBest_52 : decode cX1_seekBest 52 = .ok (.iload 4, 2) := by decide +kernel
theorem dX1_seekBest_54 : decode cX1_seekBest 54 = .ok (.iconst 1, 1) := by decide +kernel
theorem dX1_seekBest_55 : decode cX1_seekBest 55 = .ok (.iload 6, 2) := by decide +kernel
theorem dX1_seekBest_57 : decode cX1_seekBest 57 = .ok (.ishl, 1) := by decide +kernel
theorem dX1_seekBest_58 : decode cX1_seekBest 58 = .ok (.ior, 1) := by decide +kernel
theorem dX1_seekBest_59 : decode cX1_seekBest 59 = .ok (.istore 4, 2) := by decide +kernel
theorem dX1_seekBest_61 : decode cX1_seekBest 61 = .ok (.iinc 5 1, 3) := by decide +kernel
theorem dX1_seekBest_64 : decode cX1_seekBest 64 = .ok (.goto (-53), 3) := by decide +kernel
theorem dX1_seekBest_67 : decode cX1_seekBest 67 = .ok (.aload_n 0, 1) := by decide +kernel
theorem dX1_seekBest_68 : decode cX1_seekBest 68 = .ok (.getfield 36, 3) := by decide +kernel
theorem dX1_seekBest_71 : decode cX1_seekBest 71 = .ok (.iconst 0, 1) := by decide +kernel
theorem dX1_seekBest_72 : decode cX1_seekBest 72 = .ok (.iconst 0, 1) := by decide +kernel
theorem dX1_seekBest_73 : decode cX1_seekBest 73 = .ok (.iastore, 1) := by decide +kernel
theorem dX1_seekBest_74 : decode cX1_seekBest 74 = .ok (.aload_n 0, 1) := by decide +kernel
theorem dX1_seekBest_75 : decode cX1_seekBest 75 = .ok (.getfield 36, 3) := by decide +kernel
theorem dX1_seekBest_78 : decode cX1_seekBest 78 = .ok (.iconst 1, 1) := by decide +kernel
theorem dX1_seekBest_79 : decode cX1_seekBest 79 = .ok (.iconst 0, 1) := by decide +kernel
theorem dX1_seekBest_80 : decode cX1_seekBest 80 = .ok (.iastore, 1) := by decide +kernel
theorem dX1_seekBest_81 : decode cX1_seekBest 81 = .ok (.aload_n 0, 1) := by decide +kernel
theorem dX1_seekBest_82 : decode cX1_seekBest 82 = .ok (.ldc 19, 2) := by decide +kernel
theorem dX1_seekBest_84 : decode cX1_seekBest 84 = .ok (.putfield 20, 3) := by decide +kernel
theorem dX1_seekBest_87 : decode cX1_seekBest 87 = .ok (.aload_n 0, 1) := by decide +kernel
theorem dX1_seekBest_88 : decode cX1_seekBest 88 = .ok (.iconst 0, 1) := by decide +kernel
theorem dX1_seekBest_89 : decode cX1_seekBest 89 = .ok (.iconst 0, 1) := by decide +kernel
theorem dX1_seekBest_90 : decode cX1_seekBest 90 = .ok (.iconst 0, 1) := by decide +kernel
theorem dX1_seekBest_91 : decode cX1_seekBest 91 = .ok (.invokevirtual 39, 3) := by decide +kernel
theorem dX1_seekBest_94 : decode cX1_seekBest 94 = .ok (.return_, 1) := by decide +kernel
theorem dX1_turnedBy_0 : decode cX1_turnedBy 0 = .ok (.iconst 0, 1) := by decide +kernel
theorem dX1_turnedBy_1 : decode cX1_turnedBy 1 = .ok (.istore_n 2, 1) := by decide +kernel
theorem dX1_turnedBy_2 : decode cX1_turnedBy 2 = .ok (.aload_n 0, 1) := by decide +kernel
theorem dX1_turnedBy_3 : decode cX1_turnedBy 3 = .ok (.getfield 36, 3) := by decide +kernel
theorem dX1_turnedBy_6 : decode cX1_turnedBy 6 = .ok (.iconst 0, 1) := by decide +kernel
theorem dX1_turnedBy_7 : decode cX1_turnedBy 7 = .ok (.iconst 0, 1) := by decide +kernel
theorem dX1_turnedBy_8 : decode cX1_turnedBy 8 = .ok (.iastore, 1) := by decide +kernel
theorem dX1_turnedBy_9 : decode cX1_turnedBy 9 = .ok (.aload_n 0, 1) := by decide +kernel
theorem dX1_turnedBy_10 : decode cX1_turnedBy 10 = .ok (.getfield 36, 3) := by decide +kernel
theorem dX1_turnedBy_13 : decode cX1_turnedBy 13 = .ok (.iconst 1, 1) := by decide +kernel
theorem dX1_turnedBy_14 : decode cX1_turnedBy 14 = .ok (.iconst 0, 1) := by decide +kernel
theorem dX1_turnedBy_15 : decode cX1_turnedBy 15 = .ok (.iastore, 1) := by decide +kernel
theorem dX1_turnedBy_16 : decode cX1_turnedBy 16 = .ok (.iconst 0, 1) := by decide +kernel
theorem dX1_turnedBy_17 : decode cX1_turnedBy 17 = .ok (.istore_n 3, 1) := by decide +kernel
theorem dX1_turnedBy_18 : decode cX1_turnedBy 18 = .ok (.iload_n 3, 1) := by decide +kernel
theorem dX1_turnedBy_19 : decode cX1_turnedBy 19 = .ok (.aload_n 0, 1) := by decide +kernel
theorem dX1_turnedBy_20 : decode cX1_turnedBy 20 = .ok (.getfield 27, 3) := by decide +kernel
theorem dX1_turnedBy_23 : decode cX1_turnedBy 23 = .ok (.if_icmp .ge 43, 3) := by decide +kernel
theorem dX1_turnedBy_26 : decode cX1_turnedBy 26 = .ok (.iload_n 1, 1) := by decide +kernel
theorem dX1_turnedBy_27 : decode cX1_turnedBy 27 = .ok (.iload_n 3, 1) := by decide +kernel
theorem dX1_turnedBy_28 : decode cX1_turnedBy 28 = .ok (.ishr, 1) := by decide +kernel
theorem dX1_turnedBy_29 : decode cX1_turnedBy 29 = .ok (.iconst 1, 1) := by decide +kernel
theorem dX1_turnedBy_30 : decode cX1_turnedBy 30 = .ok (.iand, 1) := by decide +kernel
theorem dX1_turnedBy_31 : decode cX1_turnedBy 31 = .ok (.istore 4, 2) := by decide +kernel
theorem dX1_turnedBy_33 : decode cX1_turnedBy 33 = .ok (.aload_n 0, 1) := by decide +kernel
theorem dX1_turnedBy_34 : decode cX1_turnedBy 34 = .ok (.getfield 36, 3) := by decide +kernel
theorem dX1_turnedBy_37 : decode cX1_turnedBy 37 = .ok (.iload 4, 2) := by decide +kernel
theorem dX1_turnedBy_39 : decode cX1_turnedBy 39 = .ok (.dup2, 1) := by decide +kernel
theorem dX1_turnedBy_40 : decode cX1_turnedBy 40 = .ok (.iaload, 1) := by decide +kernel
theorem dX1_turnedBy_41 : decode cX1_turnedBy 41 = .ok (.aload_n 0, 1) := by decide +kernel
theorem dX1_turnedBy_42 : decode cX1_turnedBy 42 = .ok (.getfield 30, 3) := by decide +kernel
theorem dX1_turnedBy_45 : decode cX1_turnedBy 45 = .ok (.iload_n 3, 1) := by decide +kernel
theorem dX1_turnedBy_46 : decode cX1_turnedBy 46 = .ok (.iaload, 1) := by decide +kernel
theorem dX1_turnedBy_47 : decode cX1_turnedBy 47 = .ok (.iadd, 1) := by decide +kernel
theorem dX1_turnedBy_48 : decode cX1_turnedBy 48 = .ok (.iastore, 1) := by decide +kernel
theorem dX1_turnedBy_49 : decode cX1_turnedBy 49 = .ok (.iload_n 2, 1) := by decide +kernel
theorem dX1_turnedBy_50 : decode cX1_turnedBy 50 = .ok (.aload_n 0, 1) := by decide +kernel
theorem dX1_turnedBy_51 : decode cX1_turnedBy 51 = .ok (.iload_n 3, 1) := by decide +kernel
theorem dX1_turnedBy_52 : decode cX1_turnedBy 52 = .ok (.iload 4, 2) := by decide +kernel
theorem dX1_turnedBy_54 : decode cX1_turnedBy 54 = .ok (.iload_n 1, 1) := by decide +kernel
theorem dX1_turnedBy_55 : decode cX1_turnedBy 55 = .ok (.invokevirtual 43, 3) := by decide +kernel
theorem dX1_turnedBy_58 : decode cX1_turnedBy 58 = .ok (.iadd, 1) := by decide +kernel
theorem dX1_turnedBy_59 : decode cX1_turnedBy 59 = .ok (.istore_n 2, 1) := by decide +kernel
theorem dX1_turnedBy_60 : decode cX1_turnedBy 60 = .ok (.iinc 3 1, 3) := by decide +kernel
theorem dX1_turnedBy_63 : decode cX1_turnedBy 63 = .ok (.goto (-45), 3) := by decide +kernel
theorem dX1_turnedBy_66 : decode cX1_turnedBy 66 = .ok (.aload_n 0, 1) := by decide +kernel
theorem dX1_turnedBy_67 : decode cX1_turnedBy 67 = .ok (.getfield 36, 3) := by decide +kernel
theorem dX1_turnedBy_70 : decode cX1_turnedBy 70 = .ok (.iconst 0, 1) := by decide +kernel
theorem dX1_turnedBy_71 : decode cX1_turnedBy 71 = .ok (.iaload, 1) := by decide +kernel
theorem dX1_turnedBy_72 : decode cX1_turnedBy 72 = .ok (.aload_n 0, 1) := by decide +kernel
theorem dX1_turnedBy_73 : decode cX1_turnedBy 73 = .ok (.getfield 9, 3) := by decide +kernel
theorem dX1_turnedBy_76 : decode cX1_turnedBy 76 = .ok (.iconst 0, 1) := by decide +kernel
theorem dX1_turnedBy_77 : decode cX1_turnedBy 77 = .ok (.iaload, 1) := by decide +kernel
theorem dX1_turnedBy_78 : decode cX1_turnedBy 78 = .ok (.if_icmp .gt 18, 3) := by decide +kernel
theorem dX1_turnedBy_81 : decode cX1_turnedBy 81 = .ok (.aload_n 0, 1) := by decide +kernel
theorem dX1_turnedBy_82 : decode cX1_turnedBy 82 = .ok (.getfield 36, 3) := by decide +kernel
theorem dX1_turnedBy_85 : decode cX1_turnedBy 85 = .ok (.iconst 1, 1) := by decide +kernel
theorem dX1_turnedBy_86 : decode cX1_turnedBy 86 = .ok (.iaload, 1) := by decide +kernel
theorem dX1_turnedBy_87 : decode cX1_turnedBy 87 = .ok (.aload_n 0, 1) := by decide +kernel
theorem dX1_turnedBy_88 : decode cX1_turnedBy 88 = .ok (.getfield 9, 3) := by decide +kernel
theorem dX1_turnedBy_91 : decode cX1_turnedBy 91 = .ok (.iconst 1, 1) := by decide +kernel
theorem dX1_turnedBy_92 : decode cX1_turnedBy 92 = .ok (.iaload, 1) := by decide +kernel
theorem dX1_turnedBy_93 : decode cX1_turnedBy 93 = .ok (.if_icmp .le 8, 3) := by decide +kernel
theorem dX1_turnedBy_96 : decode cX1_turnedBy 96 = .ok (.ldc 19, 2) := by decide +kernel
theorem dX1_turnedBy_98 : decode cX1_turnedBy 98 = .ok (.goto 4, 3) := by decide +kernel
theorem dX1_turnedBy_101 : decode cX1_turnedBy 101 = .ok (.iload_n 2, 1) := by decide +kernel
theorem dX1_turnedBy_102 : decode cX1_turnedBy 102 = .ok (.ireturn, 1) := by decide +kernel
theorem dX1_placeFrom_0 : decode cX1_placeFrom 0 = .ok (.aload_n 0, 1) := by decide +kernel
theorem dX1_placeFrom_1 : decode cX1_placeFrom 1 = .ok (.getfield 20, 3) := by decide +kernel
theorem dX1_placeFrom_4 : decode cX1_placeFrom 4 = .ok (.ldc 19, 2) := by decide +kernel
theorem dX1_placeFrom_6 : decode cX1_placeFrom 6 = .ok (.if_icmp .eq 12, 3) := by decide +kernel
theorem dX1_placeFrom_9 : decode cX1_placeFrom 9 = .ok (.iload_n 3, 1) := by decide +kernel
theorem dX1_placeFrom_10 : decode cX1_placeFrom 10 = .ok (.aload_n 0, 1) := by decide +kernel
theorem dX1_placeFrom_11 : decode cX1_placeFrom 11 = .ok (.getfield 20, 3) := by decide +kernel
theorem dX1_placeFrom_14 : decode cX1_placeFrom 14 = .ok (.if_icmp .lt 4, 3) := by decide +kernel
theorem dX1_placeFrom_17 : decode cX1_placeFrom 17 = .ok (.return_, 1) := by decide +kernel
theorem dX1_placeFrom_18 : decode cX1_placeFrom 18 = .ok (.iload_n 1, 1) := by decide +kernel
theorem dX1_placeFrom_19 : decode cX1_placeFrom 19 = .ok (.aload_n 0, 1) := by decide +kernel
theorem dX1_placeFrom_20 : decode cX1_placeFrom 20 = .ok (.getfield 27, 3) := by decide +kernel
theorem dX1_placeFrom_23 : decode cX1_placeFrom 23 = .ok (.if_icmp .lt 14, 3) := by decide +kernel
theorem dX1_placeFrom_26 : decode cX1_placeFrom 26 = .ok (.aload_n 0, 1) := by decide +kernel
theorem dX1_placeFrom_27 : decode cX1_placeFrom 27 = .ok (.iload_n 3, 1) := by decide +kernel
theorem dX1_placeFrom_28 : decode cX1_placeFrom 28 = .ok (.putfield 20, 3) := by decide +kernel
theorem dX1_placeFrom_31 : decode cX1_placeFrom 31 = .ok (.aload_n 0, 1) := by decide +kernel
theorem dX1_placeFrom_32 : decode cX1_placeFrom 32 = .ok (.iload_n 2, 1) := by decide +kernel
theorem dX1_placeFrom_33 : decode cX1_placeFrom 33 = .ok (.putfield 24, 3) := by decide +kernel
theorem dX1_placeFrom_36 : decode cX1_placeFrom 36 = .ok (.return_, 1) := by decide +kernel
theorem dX1_placeFrom_37 : decode cX1_placeFrom 37 = .ok (.iconst 0, 1) := by decide +kernel
theorem dX1_placeFrom_38 : decode cX1_placeFrom 38 = .ok (.istore 4, 2) := by decide +kernel
theorem dX1_placeFrom_40 : decode cX1_placeFrom 40 = .ok (.iload 4, 2) := by decide +kernel
theorem dX1_placeFrom_42 : decode cX1_placeFrom 42 = .ok (.iconst 2, 1) := by decide +kernel
theorem dX1_placeFrom_43 : decode cX1_placeFrom 43 = .ok (.if_icmp .ge 88, 3) := by decide +kernel
theorem dX1_placeFrom_46 : decode cX1_placeFrom 46 = .ok (.aload_n 0, 1) := by decide +kernel
theorem dX1_placeFrom_47 : decode cX1_placeFrom 47 = .ok (.getfield 36, 3) := by decide +kernel
theorem dX1_placeFrom_50 : decode cX1_placeFrom 50 = .ok (.iload 4, 2) := by decide +kernel
theorem dX1_placeFrom_52 : decode cX1_placeFrom 52 = .ok (.iaload, 1) := by decide +kernel
theorem dX1_placeFrom_53 : decode cX1_placeFrom 53 = .ok (.aload_n 0, 1) := by decide +kernel
theorem dX1_placeFrom_54 : decode cX1_placeFrom 54 = .ok (.getfield 30, 3) := by decide +kernel
theorem dX1_placeFrom_57 : decode cX1_placeFrom 57 = .ok (.iload_n 1, 1) := by decide +kernel
theorem dX1_placeFrom_58 : decode cX1_placeFrom 58 = .ok (.iaload, 1) := by decide +kernel
theorem dX1_placeFrom_59 : decode cX1_placeFrom 59 = .ok (.iadd, 1) := by decide +kernel
theorem dX1_placeFrom_60 : decode cX1_placeFrom 60 = .ok (.aload_n 0, 1) := by decide +kernel
theorem dX1_placeFrom_61 : decode cX1_placeFrom 61 = .ok (.getfield 9, 3) := by decide +kernel
theorem dX1_placeFrom_64 : decode cX1_placeFrom 64 = .ok (.iload 4, 2) := by decide +kernel
theorem dX1_placeFrom_66 : decode cX1_placeFrom 66 = .ok (.iaload, 1) := by decide +kernel
theorem dX1_placeFrom_67 : decode cX1_placeFrom 67 = .ok (.if_icmp .gt 58, 3) := by decide +kernel
theorem dX1_placeFrom_70 : decode cX1_placeFrom 70 = .ok (.aload_n 0, 1) := by decide +kernel
theorem dX1_placeFrom_71 : decode cX1_placeFrom 71 = .ok (.getfield 36, 3) := by decide +kernel
theorem dX1_placeFrom_74 : decode cX1_placeFrom 74 = .ok (.iload 4, 2) := by decide +kernel
theorem dX1_placeFrom_76 : decode cX1_placeFrom 76 = .ok (.dup2, 1) := by decide +kernel
theorem dX1_placeFrom_77 : decode cX1_placeFrom 77 = .ok (.iaload, 1) := by decide +kernel
theorem dX1_placeFrom_78 : decode cX1_placeFrom 78 = .ok (.aload_n 0, 1) := by decide +kernel
theorem dX1_placeFrom_79 : decode cX1_placeFrom 79 = .ok (.getfield 30, 3) := by decide +kernel
theorem dX1_placeFrom_82 : decode cX1_placeFrom 82 = .ok (.iload_n 1, 1) := by decide +kernel
theorem dX1_placeFrom_83 : decode cX1_placeFrom 83 = .ok (.iaload, 1) := by decide +kernel
theorem dX1_placeFrom_84 : decode cX1_placeFrom 84 = .ok (.iadd, 1) := by decide +kernel
theorem dX1_placeFrom_85 : decode cX1_placeFrom 85 = .ok (.iastore, 1) := by decide +kernel
theorem dX1_placeFrom_86 : decode cX1_placeFrom 86 = .ok (.aload_n 0, 1) := by decide +kernel
theorem dX1_placeFrom_87 : decode cX1_placeFrom 87 = .ok (.iload_n 1, 1) := by decide +kernel
theorem dX1_placeFrom_88 : decode cX1_placeFrom 88 = .ok (.iconst 1, 1) := by decide +kernel
theorem dX1_placeFrom_89 : decode cX1_placeFrom 89 = .ok (.iadd, 1) := by decide +kernel
theorem dX1_placeFrom_90 : decode cX1_placeFrom 90 = .ok (.iload_n 2, 1) := by decide +kernel
theorem dX1_placeFrom_91 : decode cX1_placeFrom 91 = .ok (.iload 4, 2) := by decide +kernel
theorem dX1_placeFrom_93 : decode cX1_placeFrom 93 = .ok (.iload_n 1, 1) := by decide +kernel
theorem dX1_placeFrom_94 : decode cX1_placeFrom 94 = .ok (.ishl, 1) := by decide +kernel
theorem dX1_placeFrom_95 : decode cX1_placeFrom 95 = .ok (.ior, 1) := by decide +kernel
theorem dX1_placeFrom_96 : decode cX1_placeFrom 96 = .ok (.iload_n 3, 1) := by decide +kernel
theorem dX1_placeFrom_97 : decode cX1_placeFrom 97 = .ok (.aload_n 0, 1) := by decide +kernel
theorem dX1_placeFrom_98 : decode cX1_placeFrom 98 = .ok (.iload_n 1, 1) := by decide +kernel
theorem dX1_placeFrom_99 : decode cX1_placeFrom 99 = .ok (.iload 4, 2) := by decide +kernel
theorem dX1_placeFrom_101 : decode cX1_placeFrom 101 = .ok (.iload_n 2, 1) := by decide +kernel
theorem dX1_placeFrom_102 : decode cX1_placeFrom 102 = .ok (.invokevirtual 43, 3) := by decide +kernel
theorem dX1_placeFrom_105 : decode cX1_placeFrom 105 = .ok (.iadd, 1) := by decide +kernel
theorem dX1_placeFrom_106 : decode cX1_placeFrom 106 = .ok (.invokevirtual 39, 3) := by decide +kernel
theorem dX1_placeFrom_109 : decode cX1_placeFrom 109 = .ok (.aload_n 0, 1) := by decide +kernel
theorem dX1_placeFrom_110 : decode cX1_placeFrom 110 = .ok (.getfield 36, 3) := by decide +kernel
theorem dX1_placeFrom_113 : decode cX1_placeFrom 113 = .ok (.iload 4, 2) := by decide +kernel
theorem dX1_placeFrom_115 : decode cX1_placeFrom 115 = .ok (.dup2, 1) := by decide +kernel
theorem dX1_placeFrom_116 : decode cX1_placeFrom 116 = .ok (.iaload, 1) := by decide +kernel
theorem dX1_placeFrom_117 : decode cX1_placeFrom 117 = .ok (.aload_n 0, 1) := by decide +kernel
theorem dX1_placeFrom_118 : decode cX1_placeFrom 118 = .ok (.getfield 30, 3) := by decide +kernel
theorem dX1_placeFrom_121 : decode cX1_placeFrom 121 = .ok (.iload_n 1, 1) := by decide +kernel
theorem dX1_placeFrom_122 : decode cX1_placeFrom 122 = .ok (.iaload, 1) := by decide +kernel
theorem dX1_placeFrom_123 : decode cX1_placeFrom 123 = .ok (.isub, 1) := by decide +kernel
theorem dX1_placeFrom_124 : decode cX1_placeFrom 124 = .ok (.iastore, 1) := by decide +kernel
theorem dX1_placeFrom_125 : decode cX1_placeFrom 125 = .ok (.iinc 4 1, 3) := by decide +kernel
theorem dX1_placeFrom_128 : decode cX1_placeFrom 128 = .ok (.goto (-88), 3) := by decide +kernel
theorem dX1_placeFrom_131 : decode cX1_placeFrom 131 = .ok (.return_, 1) := by decide +kernel
theorem dX1_turnedFor_0 : decode cX1_turnedFor 0 = .ok (.aload_n 0, 1) := by decide +kernel
theorem dX1_turnedFor_1 : decode cX1_turnedFor 1 = .ok (.getfield 33, 3) := by decide +kernel
theorem dX1_turnedFor_4 : decode cX1_turnedFor 4 = .ok (.iload_n 1, 1) := by decide +kernel
theorem dX1_turnedFor_5 : decode cX1_turnedFor 5 = .ok (.iaload, 1) := by decide +kernel
theorem dX1_turnedFor_6 : decode cX1_turnedFor 6 = .ok (.iload_n 2, 1) := by decide +kernel
theorem dX1_turnedFor_7 : decode cX1_turnedFor 7 = .ok (.ifCond .ne 9, 3) := by decide +kernel
theorem dX1_turnedFor_10 : decode cX1_turnedFor 10 = .ok (.iload_n 3, 1) := by decide +kernel
theorem dX1_turnedFor_11 : decode cX1_turnedFor 11 = .ok (.iconst (-1), 1) := by decide +kernel
theorem dX1_turnedFor_12 : decode cX1_turnedFor 12 = .ok (.ixor, 1) := by decide +kernel
theorem dX1_turnedFor_13 : decode cX1_turnedFor 13 = .ok (.goto 4, 3) := by decide +kernel
theorem dX1_turnedFor_16 : decode cX1_turnedFor 16 = .ok (.iload_n 3, 1) := by decide +kernel
theorem dX1_turnedFor_17 : decode cX1_turnedFor 17 = .ok (.iand, 1) := by decide +kernel
theorem dX1_turnedFor_18 : decode cX1_turnedFor 18 = .ok (.invokestatic 47, 3) := by decide +kernel
theorem dX1_turnedFor_21 : decode cX1_turnedFor 21 = .ok (.ireturn, 1) := by decide +kernel
theorem dX2_init_0 : decode cX2_init 0 = .ok (.aload_n 0, 1) := by decide +kernel
theorem dX2_init_1 : decode cX2_init 1 = .ok (.invokespecial 3, 3) := by decide +kernel
theorem dX2_init_4 : decode cX2_init 4 = .ok (.aload_n 0, 1) := by decide +kernel
theorem dX2_init_5 : decode cX2_init 5 = .ok (.iconst 4, 1) := by decide +kernel
theorem dX2_init_6 : decode cX2_init 6 = .ok (.newarray .int, 2) := by decide +kernel
theorem dX2_init_8 : decode cX2_init 8 = .ok (.putfield 9, 3) := by decide +kernel
theorem dX2_init_11 : decode cX2_init 11 = .ok (.aload_n 0, 1) := by decide +kernel
theorem dX2_init_12 : decode cX2_init 12 = .ok (.iconst 4, 1) := by decide +kernel
theorem dX2_init_13 : decode cX2_init 13 = .ok (.newarray .int, 2) := by decide +kernel
theorem dX2_init_15 : decode cX2_init 15 = .ok (.putfield 15, 3) := by decide +kernel
theorem dX2_init_18 : decode cX2_init 18 = .ok (.aload_n 0, 1) := by decide +kernel
theorem dX2_init_19 : decode cX2_init 19 = .ok (.iconst 1, 1) := by decide +kernel
theorem dX2_init_20 : decode cX2_init 20 = .ok (.putfield 18, 3) := by decide +kernel
theorem dX2_init_23 : decode cX2_init 23 = .ok (.aload_n 0, 1) := by decide +kernel
theorem dX2_init_24 : decode cX2_init 24 = .ok (.iconst 1, 1) := by decide +kernel
theorem dX2_init_25 : decode cX2_init 25 = .ok (.putfield 22, 3) := by decide +kernel
theorem dX2_init_28 : decode cX2_init 28 = .ok (.aload_n 0, 1) := by decide +kernel
theorem dX2_init_29 : decode cX2_init 29 = .ok (.iconst 0, 1) := by decide +kernel
theorem dX2_init_30 : decode cX2_init 30 = .ok (.putfield 26, 3) := by decide +kernel
theorem dX2_init_33 : decode cX2_init 33 = .ok (.aload_n 0, 1) := by decide +kernel
theorem dX2_init_34 : decode cX2_init 34 = .ok (.iconst 0, 1) := by decide +kernel
theorem dX2_init_35 : decode cX2_init 35 = .ok (.putfield 29, 3) := by decide +kernel
theorem dX2_init_38 : decode cX2_init 38 = .ok (.aload_n 0, 1) := by decide +kernel
theorem dX2_init_39 : decode cX2_init 39 = .ok (.iconst 0, 1) := by decide +kernel
theorem dX2_init_40 : decode cX2_init 40 = .ok (.putfield 32, 3) := by decide +kernel
theorem dX2_init_43 : decode cX2_init 43 = .ok (.aload_n 0, 1) := by decide +kernel
theorem dX2_init_44 : decode cX2_init 44 = .ok (.bipush 12, 2) := by decide +kernel
theorem dX2_init_46 : decode cX2_init 46 = .ok (.newarray .int, 2) := by decide +kernel
theorem dX2_init_48 : decode cX2_init 48 = .ok (.putfield 35, 3) := by decide +kernel
theorem dX2_init_51 : decode cX2_init 51 = .ok (.aload_n 0, 1) := by decide +kernel
theorem dX2_init_52 : decode cX2_init 52 = .ok (.bipush 12, 2) := by decide +kernel
theorem dX2_init_54 : decode cX2_init 54 = .ok (.newarray .int, 2) := by decide +kernel
theorem dX2_init_56 : decode cX2_init 56 = .ok (.putfield 38, 3) := by decide +kernel
theorem dX2_init_59 : decode cX2_init 59 = .ok (.aload_n 0, 1) := by decide +kernel
theorem dX2_init_60 : decode cX2_init 60 = .ok (.bipush 12, 2) := by decide +kernel
theorem dX2_init_62 : decode cX2_init 62 = .ok (.newarray .int, 2) := by decide +kernel
theorem dX2_init_64 : decode cX2_init 64 = .ok (.putfield 41, 3) := by decide +kernel
theorem dX2_init_67 : decode cX2_init 67 = .ok (.aload_n 0, 1) := by decide +kernel
theorem dX2_init_68 : decode cX2_init 68 = .ok (.sipush 4096, 3) := by decide +kernel
theorem dX2_init_71 : decode cX2_init 71 = .ok (.newarray .int, 2) := by decide +kernel
theorem dX2_init_73 : decode cX2_init 73 = .ok (.putfield 44, 3) := by decide +kernel
theorem dX2_init_76 : decode cX2_init 76 = .ok (.aload_n 0, 1) := by decide +kernel
theorem dX2_init_77 : decode cX2_init 77 = .ok (.sipush 4096, 3) := by decide +kernel
theorem dX2_init_80 : decode cX2_init 80 = .ok (.newarray .long, 2) := by decide +kernel
theorem dX2_init_82 : decode cX2_init 82 = .ok (.putfield 47, 3) := by decide +kernel
theorem dX2_init_85 : decode cX2_init 85 = .ok (.return_, 1) := by decide +kernel
theorem dX2_seekBest_0 : decode cX2_seekBest 0 = .ok (.aload_n 0, 1) := by decide +kernel
theorem dX2_seekBest_1 : decode cX2_seekBest 1 = .ok (.iconst 1, 1) := by decide +kernel
theorem dX2_seekBest_2 : decode cX2_seekBest 2 = .ok (.putfield 26, 3) := by decide +kernel
theorem dX2_seekBest_5 : decode cX2_seekBest 5 = .ok (.iconst 0, 1) := by decide +kernel
theorem dX2_seekBest_6 : decode cX2_seekBest 6 = .ok (.istore_n 3, 1) := by decide +kernel
theorem dX2_seekBest_7 : decode cX2_seekBest 7 = .ok (.iload_n 3, 1) := by decide +kernel
theorem dX2_seekBest_8 : decode cX2_seekBest 8 = .ok (.iload_n 1, 1) := by decide +kernel
theorem dX2_seekBest_9 : decode cX2_seekBest 9 = .ok (.if_icmp .ge 24, 3) := by decide +kernel
theorem dX2_seekBest_12 : decode cX2_seekBest 12 = .ok (.aload_n 0, 1) := by decide +kernel
theorem dX2_seekBest_13 : decode cX2_seekBest 13 = .ok (.aload_n 2, 1) := by decide +kernel
theorem dX2_seekBest_14 : decode cX2_seekBest 14 = .ok (.iload_n 3, 1) := by decide +kernel
theorem dX2_seekBest_15 : decode cX2_seekBest 15 = .ok (.iaload, 1) := by decide +kernel
theorem dX2_seekBest_16 : decode cX2_seekBest 16 = .ok (.invokevirtual 51, 3) := by decide +kernel
theorem dX2_seekBest_19 : decode cX2_seekBest 19 = .ok (.ifCond .ge 8, 3) := by decide +kernel
theorem dX2_seekBest_22 : decode cX2_seekBest 22 = .ok (.aload_n 0, 1) := by decide +kernel
theorem dX2_seekBest_23 : decode cX2_seekBest 23 = .ok (.iconst 0, 1) := by decide +kernel
theorem dX2_seekBest_24 : decode cX2_seekBest 24 = .ok (.putfield 26, 3) := by decide +kernel
theorem dX2_seekBest_27 : decode cX2_seekBest 27 = .ok (.iinc 3 1, 3) := by decide +kernel
theorem dX2_seekBest_30 : decode cX2_seekBest 30 = .ok (.goto (-23), 3) := by decide +kernel
theorem dX2_seekBest_33 : decode cX2_seekBest 33 = .ok (.aload_n 0, 1) := by decide +kernel
theorem dX2_seekBest_34 : decode cX2_seekBest 34 = .ok (.getfield 26, 3) := by decide +kernel
theorem dX2_seekBest_37 : decode cX2_seekBest 37 = .ok (.ifCond .eq 24, 3) := by decide +kernel
theorem dX2_seekBest_40 : decode cX2_seekBest 40 = .ok (.aload_n 0, 1) := by decide +kernel
theorem dX2_seekBest_41 : decode cX2_seekBest 41 = .ok (.iload_n 1, 1) := by decide +kernel
theorem dX2_seekBest_42 : decode cX2_seekBest 42 = .ok (.aload_n 2, 1) := by decide +kernel
theorem dX2_seekBest_43 : decode cX2_seekBest 43 = .ok (.invokevirtual 55, 3) := by decide +kernel
theorem dX2_seekBest_46 : decode cX2_seekBest 46 = .ok (.aload_n 0, 1) := by decide +kernel
theorem dX2_seekBest_47 : decode cX2_seekBest 47 = .ok (.aload_n 0, 1) := by decide +kernel
theorem dX2_seekBest_48 : decode cX2_seekBest 48 = .ok (.iload_n 1, 1) := by decide +kernel
theorem dX2_seekBest_49 : decode cX2_seekBest 49 = .ok (.invokevirtual 59, 3) := by decide +kernel
theorem dX2_seekBest_52 : decode cX2_seekBest 52 = .ok (.invokevirtual 63, 3) := by decide +kernel
theorem dX2_seekBest_55 : decode cX2_seekBest 55 = .ok (.aload_n 0, 1) := by decide +kernel
theorem dX2_seekBest_56 : decode cX2_seekBest 56 = .ok (.iload_n 1, 1) := by decide +kernel
theorem dX2_seekBest_57 : decode cX2_seekBest 57 = .ok (.aload_n 2, 1) := by decide +kernel
theorem dX2_seekBest_58 : decode cX2_seekBest 58 = .ok (.invokevirtual 67, 3) := by decide +kernel
theorem dX2_seekBest_61 : decode cX2_seekBest 61 = .ok (.return_, 1) := by decide +kernel
theorem dX2_shortestRest_0 : decode cX2_shortestRest 0 = .ok (.ldc 70, 2) := by decide +kernel
theorem dX2_shortestRest_2 : decode cX2_shortestRest 2 = .ok (.istore_n 2, 1) := by decide +kernel
theorem dX2_shortestRest_3 : decode cX2_shortestRest 3 = .ok (.iconst 0, 1) := by decide +kernel
theorem dX2_shortestRest_4 : decode cX2_shortestRest 4 = .ok (.istore_n 3, 1) := by decide +kernel
theorem dX2_shortestRest_5 : decode cX2_shortestRest 5 = .ok (.iload_n 3, 1) := by decide +kernel
theorem dX2_shortestRest_6 : decode cX2_shortestRest 6 = .ok (.aload_n 0, 1) := by decide +kernel
theorem dX2_shortestRest_7 : decode cX2_shortestRest 7 = .ok (.getfield 32, 3) := by decide +kernel
theorem dX2_shortestRest_10 : decode cX2_shortestRest 10 = .ok (.if_icmp .ge 42, 3) := by decide +kernel
theorem dX2_shortestRest_13 : decode cX2_shortestRest 13 = .ok (.aload_n 0, 1) := by decide +kernel
theorem dX2_shortestRest_14 : decode cX2_shortestRest 14 = .ok (.getfield 41, 3) := by decide +kernel
theorem dX2_shortestRest_17 : decode cX2_shortestRest 17 = .ok (.iload_n 3, 1) := by decide +kernel
theorem dX2_shortestRest_18 : decode cX2_shortestRest 18 = .ok (.iaload, 1) := by decide +kernel
theorem dX2_shortestRest_19 : decode cX2_shortestRest 19 = .ok (.iload_n 1, 1) := by decide +kernel
theorem dX2_shortestRest_20 : decode cX2_shortestRest 20 = .ok (.if_icmp .lt 26, 3) := by decide +kernel
theorem dX2_shortestRest_23 : decode cX2_shortestRest 23 = .ok (.iload_n 2, 1) := by decide +kernel
theorem dX2_shortestRest_24 : decode cX2_shortestRest 24 = .ok (.ldc 70, 2) := by decide +kernel
theorem dX2_shortestRest_26 : decode cX2_shortestRest 26 = .ok (.if_icmp .eq 18, 3) := by decide +kernel
theorem dX2_shortestRest_29 : decode cX2_shortestRest 29 = .ok (.aload_n 0, 1) := by decide +kernel
theorem dX2_shortestRest_30 : decode cX2_shortestRest 30 = .ok (.getfield 41, 3) := by decide +kernel
theorem dX2_shortestRest_33 : decode cX2_shortestRest 33 = .ok (.iload_n 3, 1) := by decide +kernel
theorem dX2_shortestRest_34 : decode cX2_shortestRest 34 = .ok (.iaload, 1) := by decide +kernel
theorem dX2_shortestRest_35 : decode cX2_shortestRest 35 = .ok (.aload_n 0, 1) := by decide +kernel
theorem dX2_shortestRest_36 : decode cX2_shortestRest 36 = .ok (.getfield 41, 3) := by decide +kernel
theorem dX2_shortestRest_39 : decode cX2_shortestRest 39 = .ok (.iload_n 2, 1) := by decide +kernel
theorem dX2_shortestRest_40 : decode cX2_shortestRest 40 = .ok (.iaload, 1) := by decide +kernel
theorem dX2_shortestRest_41 : decode cX2_shortestRest 41 = .ok (.if_icmp .ge 5, 3) := by decide +kernel
theorem dX2_shortestRest_44 : decode cX2_shortestRest 44 = .ok (.iload_n 3, 1) := by decide +kernel
theorem dX2_shortestRest_45 : decode cX2_shortestRest 45 = .ok (.istore_n 2, 1) := by decide +kernel
theorem dX2_shortestRest_46 : decode cX2_shortestRest 46 = .ok (.iinc 3 1, 3) := by decide +kernel
theorem dX2_shortestRest_49 : decode cX2_shortestRest 49 = .ok (.goto (-44), 3) := by decide +kernel
theorem dX2_shortestRest_52 : decode cX2_shortestRest 52 = .ok (.iload_n 2, 1) := by decide +kernel
theorem dX2_shortestRest_53 : decode cX2_shortestRest 53 = .ok (.ireturn, 1) := by decide +kernel
theorem dX2_cheapestSort_0 : decode cX2_cheapestSort 0 = .ok (.iconst (-1), 1) := by decide +kernel
theorem dX2_cheapestSort_1 : decode cX2_cheapestSort 1 = .ok (.istore_n 2, 1) := by decide +kernel
theorem dX2_cheapestSort_2 : decode cX2_cheapestSort 2 = .ok (.iconst 0, 1) := by decide +kernel
theorem dX2_cheapestSort_3 : decode cX2_cheapestSort 3 = .ok (.istore_n 3, 1) := by decide +kernel
theorem dX2_cheapestSort_4 : decode cX2_cheapestSort 4 = .ok (.iload_n 3, 1) := by decide +kernel
theorem dX2_cheapestSort_5 : decode cX2_cheapestSort 5 = .ok (.iconst 4, 1) := by decide +kernel
theorem dX2_cheapestSort_6 : decode cX2_cheapestSort 6 = .ok (.if_icmp .ge 40, 3) := by decide +kernel
theorem dX2_cheapestSort_9 : decode cX2_cheapestSort 9 = .ok (.aload_n 0, 1) := by decide +kernel
theorem dX2_cheapestSort_10 : decode cX2_cheapestSort 10 = .ok (.getfield 9, 3) := by decide +kernel
theorem dX2_cheapestSort_13 : decode cX2_cheapestSort 13 = .ok (.iload_n 3, 1) := by decide +kernel
theorem dX2_cheapestSort_14 : decode cX2_cheapestSort 14 = .ok (.iaload, 1) := by decide +kernel
theorem dX2_cheapestSort_15 : decode cX2_cheapestSort 15 = .ok (.iload_n 1, 1) := by decide +kernel
theorem dX2_cheapestSort_16 : decode cX2_cheapestSort 16 = .ok (.if_icmp .lt 24, 3) := by decide +kernel
theorem dX2_cheapestSort_19 : decode cX2_cheapestSort 19 = .ok (.iload_n 2, 1) := by decide +kernel
theorem dX2_cheapestSort_20 : decode cX2_cheapestSort 20 = .ok (.ifCond .lt 18, 3) := by decide +kernel
theorem dX2_cheapestSort_23 : decode cX2_cheapestSort 23 = .ok (.aload_n 0, 1) := by decide +kernel
theorem dX2_cheapestSort_24 : decode cX2_cheapestSort 24 = .ok (.getfield 15, 3) := by decide +kernel
theorem dX2_cheapestSort_27 : decode cX2_cheapestSort 27 = .ok (.iload_n 3, 1) := by decide +kernel
theorem dX2_cheapestSort_28 : decode cX2_cheapestSort 28 = .ok (.iaload, 1) := by decide +kernel
theorem dX2_cheapestSort_29 : decode cX2_cheapestSort 29 = .ok (.aload_n 0, 1) := by decide +kernel
theorem dX2_cheapestSort_30 : decode cX2_cheapestSort 30 = .ok (.getfield 15, 3) := by decide +kernel
theorem dX2_cheapestSort_33 : decode cX2_cheapestSort 33 = .ok (.iload_n 2, 1) := by decide +kernel
theorem dX2_cheapestSort_34 : decode cX2_cheapestSort 34 = .ok (.iaload, 1) := by decide +kernel
theorem dX2_cheapestSort_35 : decode cX2_cheapestSort 35 = .ok (.if_icmp .ge 5, 3) := by decide +kernel
theorem dX2_cheapestSort_38 : decode cX2_cheapestSort 38 = .ok (.iload_n 3, 1) := by decide +kernel
theorem dX2_cheapestSort_39 : decode cX2_cheapestSort 39 = .ok (.istore_n 2, 1) := by decide +kernel
theorem dX2_cheapestSort_40 : decode cX2_cheapestSort 40 = .ok (.iinc 3 1, 3) := by decide +kernel
theorem dX2_cheapestSort_43 : decode cX2_cheapestSort 43 = .ok (.goto (-39), 3) := by decide +kernel
theorem dX2_cheapestSort_46 : decode cX2_cheapestSort 46 = .ok (.iload_n 2, 1) := by decide +kernel
theorem dX2_cheapestSort_47 : decode cX2_cheapestSort 47 = .ok (.ireturn, 1) := by decide +kernel
theorem dX2_weighBoards_0 : decode cX2_weighBoards 0 = .ok (.iconst 0, 1) := by decide +kernel
theorem dX2_weighBoards_1 : decode cX2_weighBoards 1 = .ok (.istore_n 3, 1) := by decide +kernel
theorem dX2_weighBoards_2 : decode cX2_weighBoards 2 = .ok (.iload_n 3, 1) := by decide +kernel
theorem dX2_weighBoards_3 : decode cX2_weighBoards 3 = .ok (.iload_n 1, 1) := by decide +kernel
theorem dX2_weighBoards_4 : decode cX2_weighBoards 4 = .ok (.if_icmp .ge 56, 3) := by decide +kernel
theorem dX2_weighBoards_7 : decode cX2_weighBoards 7 = .ok (.iconst 1, 1) := by decide +kernel
theorem dX2_weighBoards_8 : decode cX2_weighBoards 8 = .ok (.iload_n 3, 1) := by decide +kernel
theorem dX2_weighBoards_9 : decode cX2_weighBoards 9 = .ok (.ishl, 1) := by decide +kernel
theorem dX2_weighBoards_10 : decode cX2_weighBoards 10 = .ok (.istore 4, 2) := by decide +kernel
theorem dX2_weighBoards_12 : decode cX2_weighBoards 12 = .ok (.iconst 0, 1) := by decide +kernel
theorem dX2_weighBoards_13 : decode cX2_weighBoards 13 = .ok (.istore 5, 2) := by decide +kernel
theorem dX2_weighBoards_15 : decode cX2_weighBoards 15 = .ok (.iload 5, 2) := by decide +kernel
theorem dX2_weighBoards_17 : decode cX2_weighBoards 17 = .ok (.iload 4, 2) := by decide +kernel
theorem dX2_weighBoards_19 : decode cX2_weighBoards 19 = .ok (.if_icmp .ge 35, 3) := by decide +kernel
theorem dX2_weighBoards_22 : decode cX2_weighBoards 22 = .ok (.aload_n 0, 1) := by decide +kernel
theorem dX2_weighBoards_23 : decode cX2_weighBoards 23 = .ok (.getfield 44, 3) := by decide +kernel
theorem dX2_weighBoards_26 : decode cX2_weighBoards 26 = .ok (.iload 4, 2) := by decide +kernel
theorem dX2_weighBoards_28 : decode cX2_weighBoards 28 = .ok (.iload 5, 2) := by decide +kernel
theorem dX2_weighBoards_30 : decode cX2_weighBoards 30 = .ok (.ior, 1) := by decide +kernel
theorem dX2_weighBoards_31 : decode cX2_weighBoards 31 = .ok (.aload_n 0, 1) := by decide +kernel
theorem dX2_weighBoards_32 : decode cX2_weighBoards 32 = .ok (.getfield 44, 3) := by decide +kernel
theorem dX2_weighBoards_35 : decode cX2_weighBoards 35 = .ok (.iload 5, 2) := by decide +kernel
theorem dX2_weighBoards_37 : decode cX2_weighBoards 37 = .ok (.iaload, 1) := by decide +kernel
theorem dX2_weighBoards_38 : decode cX2_weighBoards 38 = .ok (.aload_n 2, 1) := by decide +kernel
theorem dX2_weighBoards_39 : decode cX2_weighBoards 39 = .ok (.iload_n 3, 1) := by decide +kernel
theorem dX2_weighBoards_40 : decode cX2_weighBoards 40 = .ok (.iaload, 1) := by decide +kernel
theorem dX2_weighBoards_41 : decode cX2_weighBoards 41 = .ok (.iadd, 1) := by decide +kernel
theorem dX2_weighBoards_42 : decode cX2_weighBoards 42 = .ok (.aload_n 0, 1) := by decide +kernel
theorem dX2_weighBoards_43 : decode cX2_weighBoards 43 = .ok (.getfield 18, 3) := by decide +kernel
theorem dX2_weighBoards_46 : decode cX2_weighBoards 46 = .ok (.iadd, 1) := by decide +kernel
theorem dX2_weighBoards_47 : decode cX2_weighBoards 47 = .ok (.iastore, 1) := by decide +kernel
theorem dX2_weighBoards_48 : decode cX2_weighBoards 48 = .ok (.iinc 5 1, 3) := by decide +kernel
theorem dX2_weighBoards_51 : decode cX2_weighBoards 51 = .ok (.goto (-36), 3) := by decide +kernel
theorem dX2_weighBoards_54 : decode cX2_weighBoards 54 = .ok (.iinc 3 1, 3) := by decide +kernel
theorem dX2_weighBoards_57 : decode cX2_weighBoards 57 = .ok (.goto (-55), 3) := by decide +kernel
theorem dX2_weighBoards_60 : decode cX2_weighBoards 60 = .ok (.iconst 1, 1) := by decide +kernel
theorem dX2_weighBoards_61 : decode cX2_weighBoards 61 = .ok (.iload_n 1, 1) := by decide +kernel
theorem dX2_weighBoards_62 : decode cX2_weighBoards 62 = .ok (.ishl, 1) := by decide +kernel
theorem dX2_weighBoards_63 : decode cX2_weighBoards 63 = .ok (.istore_n 3, 1) := by decide +kernel
theorem dX2_weighBoards_64 : decode cX2_weighBoards 64 = .ok (.iconst 1, 1) := by decide +kernel
theorem dX2_weighBoards_65 : decode cX2_weighBoards 65 = .ok (.istore 4, 2) := by decide +kernel
theorem dX2_weighBoards_67 : decode cX2_weighBoards 67 = .ok (.iload 4, 2) := by decide +kernel
theorem dX2_weighBoards_69 : decode cX2_weighBoards 69 = .ok (.iload_n 3, 1) := by decide +kernel
theorem dX2_weighBoards_70 : decode cX2_weighBoards 70 = .ok (.if_icmp .ge 55, 3) := by decide +kernel
theorem dX2_weighBoards_73 : decode cX2_weighBoards 73 = .ok (.aload_n 0, 1) := by decide +kernel
theorem dX2_weighBoards_74 : decode cX2_weighBoards 74 = .ok (.aload_n 0, 1) := by decide +kernel
theorem dX2_weighBoards_75 : decode cX2_weighBoards 75 = .ok (.getfield 44, 3) := by decide +kernel
theorem dX2_weighBoards_78 : decode cX2_weighBoards 78 = .ok (.iload 4, 2) := by decide +kernel
theorem dX2_weighBoards_80 : decode cX2_weighBoards 80 = .ok (.iaload, 1) := by decide +kernel
theorem dX2_weighBoards_81 : decode cX2_weighBoards 81 = .ok (.aload_n 0, 1) := by decide +kernel
theorem dX2_weighBoards_82 : decode cX2_weighBoards 82 = .ok (.getfield 18, 3) := by decide +kernel
theorem dX2_weighBoards_85 : decode cX2_weighBoards 85 = .ok (.isub, 1) := by decide +kernel
theorem dX2_weighBoards_86 : decode cX2_weighBoards 86 = .ok (.invokevirtual 51, 3) := by decide +kernel
theorem dX2_weighBoards_89 : decode cX2_weighBoards 89 = .ok (.istore 5, 2) := by decide +kernel
theorem dX2_weighBoards_91 : decode cX2_weighBoards 91 = .ok (.aload_n 0, 1) := by decide +kernel
theorem dX2_weighBoards_92 : decode cX2_weighBoards 92 = .ok (.getfield 44, 3) := by decide +kernel
theorem dX2_weighBoards_95 : decode cX2_weighBoards 95 = .ok (.iload 4, 2) := by decide +kernel
theorem dX2_weighBoards_97 : decode cX2_weighBoards 97 = .ok (.iload 5, 2) := by decide +kernel
theorem dX2_weighBoards_99 : decode cX2_weighBoards 99 = .ok (.ifCond .ge 7, 3) := by decide +kernel
theorem dX2_weighBoards_102 : decode cX2_weighBoards 102 = .ok (.iconst (-1), 1) := by decide +kernel
theorem dX2_weighBoards_103 : decode cX2_weighBoards 103 = .ok (.goto 15, 3) := by decide +kernel
theorem dX2_weighBoards_106 : decode cX2_weighBoards 106 = .ok (.aload_n 0, 1) := by decide +kernel
theorem dX2_weighBoards_107 : decode cX2_weighBoards 107 = .ok (.getfield 15, 3) := by decide +kernel
theorem dX2_weighBoards_110 : decode cX2_weighBoards 110 = .ok (.iload 5, 2) := by decide +kernel
theorem dX2_weighBoards_112 : decode cX2_weighBoards 112 = .ok (.iaload, 1) := by decide +kernel
theorem dX2_weighBoards_113 : decode cX2_weighBoards 113 = .ok (.bipush 13, 2) := by decide +kernel
theorem dX2_weighBoards_115 : decode cX2_weighBoards 115 = .ok (.imul, 1) := by decide +kernel
theorem dX2_weighBoards_116 : decode cX2_weighBoards 116 = .ok (.iconst 1, 1) := by decide +kernel
theorem dX2_weighBoards_117 : decode cX2_weighBoards 117 = .ok (.iadd, 1) := by decide +kernel
theorem dX2_weighBoards_118 : decode cX2_weighBoards 118 = .ok (.iastore, 1) := by decide +kernel
theorem dX2_weighBoards_119 : decode cX2_weighBoards 119 = .ok (.iinc 4 1, 3) := by decide +kernel
theorem dX2_weighBoards_122 : decode cX2_weighBoards 122 = .ok (.goto (-55), 3) := by decide +kernel
theorem dX2_weighBoards_125 : decode cX2_weighBoards 125 = .ok (.return_, 1) := by decide +kernel
theorem dX2_bestNumber_0 : decode cX2_bestNumber 0 = .ok (.iload_n 1, 1) := by decide +kernel
theorem dX2_bestNumber_1 : decode cX2_bestNumber 1 = .ok (.ifCond .ne 5, 3) := by decide +kernel
theorem dX2_bestNumber_4 : decode cX2_bestNumber 4 = .ok (.lconst 0, 1) := by decide +kernel
theorem dX2_bestNumber_5 : decode cX2_bestNumber 5 = .ok (.lreturn, 1) := by decide +kernel
theorem dX2_bestNumber_6 : decode cX2_bestNumber 6 = .ok (.iconst 1, 1) := by decide +kernel
theorem dX2_bestNumber_7 : decode cX2_bestNumber 7 = .ok (.iload_n 1, 1) := by decide +kernel
theorem dX2_bestNumber_8 : decode cX2_bestNumber 8 = .ok (.ishl, 1) := by decide +kernel
theorem dX2_bestNumber_9 : decode cX2_bestNumber 9 = .ok (.iconst 1, 1) := by decide +kernel
theorem dX2_bestNumber_10 : decode cX2_bestNumber 10 = .ok (.isub, 1) := by decide +kernel
theorem dX2_bestNumber_11 : decode cX2_bestNumber 11 = .ok (.istore_n 2, 1) := by decide +kernel
theorem dX2_bestNumber_12 : decode cX2_bestNumber 12 = .ok (.iconst 2, 1) := by decide +kernel
theorem dX2_bestNumber_13 : decode cX2_bestNumber 13 = .ok (.istore_n 3, 1) := by decide +kernel
theorem dX2_bestNumber_14 : decode cX2_bestNumber 14 = .ok (.iload_n 3, 1) := by decide +kernel
theorem dX2_bestNumber_15 : decode cX2_bestNumber 15 = .ok (.iload_n 2, 1) := by decide +kernel
theorem dX2_bestNumber_16 : decode cX2_bestNumber 16 = .ok (.if_icmp .ge 25, 3) := by decide +kernel
theorem dX2_bestNumber_19 : decode cX2_bestNumber 19 = .ok (.aload_n 0, 1) := by decide +kernel
theorem dX2_bestNumber_20 : decode cX2_bestNumber 20 = .ok (.getfield 47, 3) := by decide +kernel
theorem dX2_bestNumber_23 : decode cX2_bestNumber 23 = .ok (.iload_n 3, 1) := by decide +kernel
theorem dX2_bestNumber_24 : decode cX2_bestNumber 24 = .ok (.aload_n 0, 1) := by decide +kernel
theorem dX2_bestNumber_25 : decode cX2_bestNumber 25 = .ok (.iload_n 3, 1) := by decide +kernel
theorem dX2_bestNumber_26 : decode cX2_bestNumber 26 = .ok (.invokevirtual 71, 3) := by decide +kernel
theorem dX2_bestNumber_29 : decode cX2_bestNumber 29 = .ok (.iload_n 3, 1) := by decide +kernel
theorem dX2_bestNumber_30 : decode cX2_bestNumber 30 = .ok (.invokestatic 74, 3) := by decide +kernel
theorem dX2_bestNumber_33 : decode cX2_bestNumber 33 = .ok (.ladd, 1) := by decide +kernel
theorem dX2_bestNumber_34 : decode cX2_bestNumber 34 = .ok (.lastore, 1) := by decide +kernel
theorem dX2_bestNumber_35 : decode cX2_bestNumber 35 = .ok (.iinc 3 2, 3) := by decide +kernel
theorem dX2_bestNumber_38 : decode cX2_bestNumber 38 = .ok (.goto (-24), 3) := by decide +kernel
theorem dX2_bestNumber_41 : decode cX2_bestNumber 41 = .ok (.aload_n 0, 1) := by decide +kernel
theorem dX2_bestNumber_42 : decode cX2_bestNumber 42 = .ok (.iload_n 2, 1) := by decide +kernel
theorem dX2_bestNumber_43 : decode cX2_bestNumber 43 = .ok (.invokevirtual 71, 3) := by decide +kernel
theorem dX2_bestNumber_46 : decode cX2_bestNumber 46 = .ok (.lreturn, 1) := by decide +kernel
theorem dX2_leastNumber_0 : decode cX2_leastNumber 0 = .ok (.iload_n 1, 1) := by decide +kernel
theorem dX2_leastNumber_1 : decode cX2_leastNumber 1 = .ok (.iload_n 1, 1) := by decide +kernel
theorem dX2_leastNumber_2 : decode cX2_leastNumber 2 = .ok (.ineg, 1) := by decide +kernel
theorem dX2_leastNumber_3 : decode cX2_leastNumber 3 = .ok (.iand, 1) := by decide +kernel
theorem dX2_leastNumber_4 : decode cX2_leastNumber 4 = .ok (.istore_n 2, 1) := by decide +kernel
theorem dX2_leastNumber_5 : decode cX2_leastNumber 5 = .ok (.iload_n 1, 1) := by decide +kernel
theorem dX2_leastNumber_6 : decode cX2_leastNumber 6 = .ok (.iload_n 2, 1) := by decide +kernel
theorem dX2_leastNumber_7 : decode cX2_leastNumber 7 = .ok (.ixor, 1) := by decide +kernel
theorem dX2_leastNumber_8 : decode cX2_leastNumber 8 = .ok (.istore_n 3, 1) := by decide +kernel
theorem dX2_leastNumber_9 : decode cX2_leastNumber 9 = .ok (.aload_n 0, 1) := by decide +kernel
theorem dX2_leastNumber_10 : decode cX2_leastNumber 10 = .ok (.getfield 44, 3) := by decide +kernel
theorem dX2_leastNumber_13 : decode cX2_leastNumber 13 = .ok (.iload_n 2, 1) := by decide +kernel
theorem dX2_leastNumber_14 : decode cX2_leastNumber 14 = .ok (.iaload, 1) := by decide +kernel
theorem dX2_leastNumber_15 : decode cX2_leastNumber 15 = .ok (.i2l, 1) := by decide +kernel
theorem dX2_leastNumber_16 : decode cX2_leastNumber 16 = .ok (.ldc2_w 77, 3) := by decide +kernel
theorem dX2_leastNumber_19 : decode cX2_leastNumber 19 = .ok (.lmul, 1) := by decide +kernel
theorem dX2_leastNumber_20 : decode cX2_leastNumber 20 = .ok (.aload_n 0, 1) := by decide +kernel
theorem dX2_leastNumber_21 : decode cX2_leastNumber 21 = .ok (.getfield 47, 3) := by decide +kernel
theorem dX2_leastNumber_24 : decode cX2_leastNumber 24 = .ok (.iload_n 3, 1) := by decide +kernel
theorem dX2_leastNumber_25 : decode cX2_leastNumber 25 = .ok (.laload, 1) := by decide +kernel
theorem dX2_leastNumber_26 : decode cX2_leastNumber 26 = .ok (.ladd, 1) := by decide +kernel
theorem dX2_leastNumber_27 : decode cX2_leastNumber 27 = .ok (.lstore 4, 2) := by decide +kernel
theorem dX2_leastNumber_29 : decode cX2_leastNumber 29 = .ok (.iload_n 3, 1) := by decide +kernel
theorem dX2_leastNumber_30 : decode cX2_leastNumber 30 = .ok (.istore 6, 2) := by decide +kernel
theorem dX2_leastNumber_32 : decode cX2_leastNumber 32 = .ok (.iload 6, 2) := by decide +kernel
theorem dX2_leastNumber_34 : decode cX2_leastNumber 34 = .ok (.ifCond .le 61, 3) := by decide +kernel
theorem dX2_leastNumber_37 : decode cX2_leastNumber 37 = .ok (.aload_n 0, 1) := by decide +kernel
theorem dX2_leastNumber_38 : decode cX2_leastNumber 38 = .ok (.getfield 44, 3) := by decide +kernel
theorem dX2_leastNumber_41 : decode cX2_leastNumber 41 = .ok (.iload_n 2, 1) := by decide +kernel
theorem dX2_leastNumber_42 : decode cX2_leastNumber 42 = .ok (.iload 6, 2) := by decide +kernel
theorem dX2_leastNumber_44 : decode cX2_leastNumber 44 = .ok (.ior, 1) := by decide +kernel
theorem dX2_leastNumber_45 : decode cX2_leastNumber 45 = .ok (.iaload, 1) := by decide +kernel
theorem dX2_leastNumber_46 : decode cX2_leastNumber 46 = .ok (.istore 7, 2) := by decide +kernel
theorem dX2_leastNumber_48 : decode cX2_leastNumber 48 = .ok (.iload 7, 2) := by decide +kernel
theorem dX2_leastNumber_50 : decode cX2_leastNumber 50 = .ok (.i2l, 1) := by decide +kernel
theorem dX2_leastNumber_51 : decode cX2_leastNumber 51 = .ok (.ldc2_w 77, 3) := by decide +kernel
theorem dX2_leastNumber_54 : decode cX2_leastNumber 54 = .ok (.lmul, 1) := by decide +kernel
theorem dX2_leastNumber_55 : decode cX2_leastNumber 55 = .ok (.aload_n 0, 1) := by decide +kernel
theorem dX2_leastNumber_56 : decode cX2_leastNumber 56 = .ok (.getfield 47, 3) := by decide +kernel
theorem dX2_leastNumber_59 : decode cX2_leastNumber 59 = .ok (.iload_n 3, 1) := by decide +kernel
theorem dX2_leastNumber_60 : decode cX2_leastNumber 60 = .ok (.iload 6, 2) := by decide +kernel
theorem dX2_leastNumber_62 : decode cX2_leastNumber 62 = .ok (.ixor, 1) := by decide +kernel
theorem dX2_leastNumber_63 : decode cX2_leastNumber 63 = .ok (.laload, 1) := by decide +kernel
theorem dX2_leastNumber_64 : decode cX2_leastNumber 64 = .ok (.ladd, 1) := by decide +kernel
theorem dX2_leastNumber_65 : decode cX2_leastNumber 65 = .ok (.lstore 8, 2) := by decide +kernel
theorem dX2_leastNumber_67 : decode cX2_leastNumber 67 = .ok (.iload 7, 2) := by decide +kernel
theorem dX2_leastNumber_69 : decode cX2_leastNumber 69 = .ok (.ifCond .lt 15, 3) := by decide +kernel
theorem dX2_leastNumber_72 : decode cX2_leastNumber 72 = .ok (.lload 8, 2) := by decide +kernel
theorem dX2_leastNumber_74 : decode cX2_leastNumber 74 = .ok (.lload 4, 2) := by decide +kernel
theorem dX2_leastNumber_76 : decode cX2_leastNumber 76 = .ok (.lcmp, 1) := by decide +kernel
theorem dX2_leastNumber_77 : decode cX2_leastNumber 77 = .ok (.ifCond .ge 7, 3) := by decide +kernel
theorem dX2_leastNumber_80 : decode cX2_leastNumber 80 = .ok (.lload 8, 2) := by decide +kernel
theorem dX2_leastNumber_82 : decode cX2_leastNumber 82 = .ok (.lstore 4, 2) := by decide +kernel
theorem dX2_leastNumber_84 : decode cX2_leastNumber 84 = .ok (.iload 6, 2) := by decide +kernel
theorem dX2_leastNumber_86 : decode cX2_leastNumber 86 = .ok (.iconst 1, 1) := by decide +kernel
theorem dX2_leastNumber_87 : decode cX2_leastNumber 87 = .ok (.isub, 1) := by decide +kernel
theorem dX2_leastNumber_88 : decode cX2_leastNumber 88 = .ok (.iload_n 3, 1) := by decide +kernel
theorem dX2_leastNumber_89 : decode cX2_leastNumber 89 = .ok (.iand, 1) := by decide +kernel
theorem dX2_leastNumber_90 : decode cX2_leastNumber 90 = .ok (.istore 6, 2) := by decide +kernel
theorem dX2_leastNumber_92 : decode cX2_leastNumber 92 = .ok (.goto (-60), 3) := by decide +kernel
theorem dX2_leastNumber_95 : decode cX2_leastNumber 95 = .ok (.lload 4, 2) := by decide +kernel
theorem dX2_leastNumber_97 : decode cX2_leastNumber 97 = .ok (.lreturn, 1) := by decide +kernel
theorem dX2_oneForEach_0 : decode cX2_oneForEach 0 = .ok (.lconst 0, 1) := by decide +kernel
theorem dX2_oneForEach_1 : decode cX2_oneForEach 1 = .ok (.lstore_n 1, 1) := by decide +kernel
theorem dX2_oneForEach_2 : decode cX2_oneForEach 2 = .ok (.iconst 1, 1) := by decide +kernel
theorem dX2_oneForEach_3 : decode cX2_oneForEach 3 = .ok (.istore_n 3, 1) := by decide +kernel
theorem dX2_oneForEach_4 : decode cX2_oneForEach 4 = .ok (.iload_n 3, 1) := by decide +kernel
theorem dX2_oneForEach_5 : decode cX2_oneForEach 5 = .ok (.bipush 12, 2) := by decide +kernel
theorem dX2_oneForEach_7 : decode cX2_oneForEach 7 = .ok (.if_icmp .ge 22, 3) := by decide +kernel
theorem dX2_oneForEach_10 : decode cX2_oneForEach 10 = .ok (.lload_n 1, 1) := by decide +kernel
theorem dX2_oneForEach_11 : decode cX2_oneForEach 11 = .ok (.ldc2_w 79, 3) := by decide +kernel
theorem dX2_oneForEach_14 : decode cX2_oneForEach 14 = .ok (.lmul, 1) := by decide +kernel
theorem dX2_oneForEach_15 : decode cX2_oneForEach 15 = .ok (.iload_n 0, 1) := by decide +kernel
theorem dX2_oneForEach_16 : decode cX2_oneForEach 16 = .ok (.iload_n 3, 1) := by decide +kernel
theorem dX2_oneForEach_17 : decode cX2_oneForEach 17 = .ok (.ishr, 1) := by decide +kernel
theorem dX2_oneForEach_18 : decode cX2_oneForEach 18 = .ok (.iconst 1, 1) := by decide +kernel
theorem dX2_oneForEach_19 : decode cX2_oneForEach 19 = .ok (.iand, 1) := by decide +kernel
theorem dX2_oneForEach_20 : decode cX2_oneForEach 20 = .ok (.i2l, 1) := by decide +kernel
theorem dX2_oneForEach_21 : decode cX2_oneForEach 21 = .ok (.ladd, 1) := by decide +kernel
theorem dX2_oneForEach_22 : decode cX2_oneForEach 22 = .ok (.lstore_n 1, 1) := by decide +kernel
theorem dX2_oneForEach_23 : decode cX2_oneForEach 23 = .ok (.iinc 3 1, 3) := by decide +kernel
theorem dX2_oneForEach_26 : decode cX2_oneForEach 26 = .ok (.goto (-22), 3) := by decide +kernel
theorem dX2_oneForEach_29 : decode cX2_oneForEach 29 = .ok (.lload_n 1, 1) := by decide +kernel
theorem dX2_oneForEach_30 : decode cX2_oneForEach 30 = .ok (.lreturn, 1) := by decide +kernel
theorem dX2_readDigits_0 : decode cX2_readDigits 0 = .ok (.lload_n 1, 1) := by decide +kernel
theorem dX2_readDigits_1 : decode cX2_readDigits 1 = .ok (.ldc2_w 77, 3) := by decide +kernel
theorem dX2_readDigits_4 : decode cX2_readDigits 4 = .ok (.ldiv, 1) := by decide +kernel
theorem dX2_readDigits_5 : decode cX2_readDigits 5 = .ok (.l2i, 1) := by decide +kernel
theorem dX2_readDigits_6 : decode cX2_readDigits 6 = .ok (.istore_n 3, 1) := by decide +kernel
theorem dX2_readDigits_7 : decode cX2_readDigits 7 = .ok (.aload_n 0, 1) := by decide +kernel
theorem dX2_readDigits_8 : decode cX2_readDigits 8 = .ok (.iload_n 3, 1) := by decide +kernel
theorem dX2_readDigits_9 : decode cX2_readDigits 9 = .ok (.bipush 13, 2) := by decide +kernel
theorem dX2_readDigits_11 : decode cX2_readDigits 11 = .ok (.idiv, 1) := by decide +kernel
theorem dX2_readDigits_12 : decode cX2_readDigits 12 = .ok (.putfield 29, 3) := by decide +kernel
theorem dX2_readDigits_15 : decode cX2_readDigits 15 = .ok (.aload_n 0, 1) := by decide +kernel
theorem dX2_readDigits_16 : decode cX2_readDigits 16 = .ok (.iload_n 3, 1) := by decide +kernel
theorem dX2_readDigits_17 : decode cX2_readDigits 17 = .ok (.bipush 13, 2) := by decide +kernel
theorem dX2_readDigits_19 : decode cX2_readDigits 19 = .ok (.irem, 1) := by decide +kernel
theorem dX2_readDigits_20 : decode cX2_readDigits 20 = .ok (.putfield 32, 3) := by decide +kernel
theorem dX2_readDigits_23 : decode cX2_readDigits 23 = .ok (.lload_n 1, 1) := by decide +kernel
theorem dX2_readDigits_24 : decode cX2_readDigits 24 = .ok (.ldc2_w 77, 3) := by decide +kernel
theorem dX2_readDigits_27 : decode cX2_readDigits 27 = .ok (.lrem, 1) := by decide +kernel
theorem dX2_readDigits_28 : decode cX2_readDigits 28 = .ok (.lstore 4, 2) := by decide +kernel
theorem dX2_readDigits_30 : decode cX2_readDigits 30 = .ok (.bipush 11, 2) := by decide +kernel
theorem dX2_readDigits_32 : decode cX2_readDigits 32 = .ok (.istore 6, 2) := by decide +kernel
theorem dX2_readDigits_34 : decode cX2_readDigits 34 = .ok (.iload 6, 2) := by decide +kernel
theorem dX2_readDigits_36 : decode cX2_readDigits 36 = .ok (.ifCond .lt 31, 3) := by decide +kernel
theorem dX2_readDigits_39 : decode cX2_readDigits 39 = .ok (.aload_n 0, 1) := by decide +kernel
theorem dX2_readDigits_40 : decode cX2_readDigits 40 = .ok (.getfield 35, 3) := by decide +kernel
theorem dX2_readDigits_43 : decode cX2_readDigits 43 = .ok (.iload 6, 2) := by decide +kernel
theorem dX2_readDigits_45 : decode cX2_readDigits 45 = .ok (.lload 4, 2) := by decide +kernel
theorem dX2_readDigits_47 : decode cX2_readDigits 47 = .ok (.ldc2_w 79, 3) := by decide +kernel
theorem dX2_readDigits_50 : decode cX2_readDigits 50 = .ok (.lrem, 1) := by decide +kernel
theorem dX2_readDigits_51 : decode cX2_readDigits 51 = .ok (.l2i, 1) := by decide +kernel
theorem dX2_readDigits_52 : decode cX2_readDigits 52 = .ok (.iastore, 1) := by decide +kernel
theorem dX2_readDigits_53 : decode cX2_readDigits 53 = .ok (.lload 4, 2) := by decide +kernel
theorem dX2_readDigits_55 : decode cX2_readDigits 55 = .ok (.ldc2_w 79, 3) := by decide +kernel
theorem dX2_readDigits_58 : decode cX2_readDigits 58 = .ok (.ldiv, 1) := by decide +kernel
theorem dX2_readDigits_59 : decode cX2_readDigits 59 = .ok (.lstore 4, 2) := by decide +kernel
theorem dX2_readDigits_61 : decode cX2_readDigits 61 = .ok (.iinc 6 (-1), 3) := by decide +kernel
theorem dX2_readDigits_64 : decode cX2_readDigits 64 = .ok (.goto (-30), 3) := by decide +kernel
theorem dX2_readDigits_67 : decode cX2_readDigits 67 = .ok (.return_, 1) := by decide +kernel
theorem dX2_describeBoards_0 : decode cX2_describeBoards 0 = .ok (.iconst 0, 1) := by decide +kernel
theorem dX2_describeBoards_1 : decode cX2_describeBoards 1 = .ok (.istore_n 3, 1) := by decide +kernel
theorem dX2_describeBoards_2 : decode cX2_describeBoards 2 = .ok (.iload_n 3, 1) := by decide +kernel
theorem dX2_describeBoards_3 : decode cX2_describeBoards 3 = .ok (.aload_n 0, 1) := by decide +kernel
theorem dX2_describeBoards_4 : decode cX2_describeBoards 4 = .ok (.getfield 32, 3) := by decide +kernel
theorem dX2_describeBoards_7 : decode cX2_describeBoards 7 = .ok (.if_icmp .ge 106, 3) := by decide +kernel
theorem dX2_describeBoards_10 : decode cX2_describeBoards 10 = .ok (.aload_n 0, 1) := by decide +kernel
theorem dX2_describeBoards_11 : decode cX2_describeBoards 11 = .ok (.getfield 18, 3) := by decide +kernel
theorem dX2_describeBoards_14 : decode cX2_describeBoards 14 = .ok (.ineg, 1) := by decide +kernel
theorem dX2_describeBoards_15 : decode cX2_describeBoards 15 = .ok (.istore 4, 2) := by decide +kernel
theorem dX2_describeBoards_17 : decode cX2_describeBoards 17 = .ok (.iconst 0, 1) := by decide +kernel
theorem dX2_describeBoards_18 : decode cX2_describeBoards 18 = .ok (.istore 5, 2) := by decide +kernel
theorem dX2_describeBoards_20 : decode cX2_describeBoards 20 = .ok (.iload 5, 2) := by decide +kernel
theorem dX2_describeBoards_22 : decode cX2_describeBoards 22 = .ok (.iload_n 1, 1) := by decide +kernel
theorem dX2_describeBoards_23 : decode cX2_describeBoards 23 = .ok (.if_icmp .ge 34, 3) := by decide +kernel
theorem dX2_describeBoards_26 : decode cX2_describeBoards 26 = .ok (.aload_n 0, 1) := by decide +kernel
theorem dX2_describeBoards_27 : decode cX2_describeBoards 27 = .ok (.getfield 35, 3) := by decide +kernel
theorem dX2_describeBoards_30 : decode cX2_describeBoards 30 = .ok (.iload 5, 2) := by decide +kernel
theorem dX2_describeBoards_32 : decode cX2_describeBoards 32 = .ok (.iaload, 1) := by decide +kernel
theorem dX2_describeBoards_33 : decode cX2_describeBoards 33 = .ok (.iload_n 3, 1) := by decide +kernel
theorem dX2_describeBoards_34 : decode cX2_describeBoards 34 = .ok (.if_icmp .ne 17, 3) := by decide +kernel
theorem dX2_describeBoards_37 : decode cX2_describeBoards 37 = .ok (.iload 4, 2) := by decide +kernel
theorem dX2_describeBoards_39 : decode cX2_describeBoards 39 = .ok (.aload_n 2, 1) := by decide +kernel
theorem dX2_describeBoards_40 : decode cX2_describeBoards 40 = .ok (.iload 5, 2) := by decide +kernel
theorem dX2_describeBoards_42 : decode cX2_describeBoards 42 = .ok (.iaload, 1) := by decide +kernel
theorem dX2_describeBoards_43 : decode cX2_describeBoards 43 = .ok (.aload_n 0, 1) := by decide +kernel
theorem dX2_describeBoards_44 : decode cX2_describeBoards 44 = .ok (.getfield 18, 3) := by decide +kernel
theorem dX2_describeBoards_47 : decode cX2_describeBoards 47 = .ok (.iadd, 1) := by decide +kernel
theorem dX2_describeBoards_48 : decode cX2_describeBoards 48 = .ok (.iadd, 1) := by decide +kernel
theorem dX2_describeBoards_49 : decode cX2_describeBoards 49 = .ok (.istore 4, 2) := by decide +kernel
theorem dX2_describeBoards_51 : decode cX2_describeBoards 51 = .ok (.iinc 5 1, 3) := by decide +kernel
theorem dX2_describeBoards_54 : decode cX2_describeBoards 54 = .ok (.goto (-34), 3) := by decide +kernel
theorem dX2_describeBoards_57 : decode cX2_describeBoards 57 = .ok (.aload_n 0, 1) := by decide +kernel
theorem dX2_describeBoards_58 : decode cX2_describeBoards 58 = .ok (.iload 4, 2) := by decide +kernel
theorem dX2_describeBoards_60 : decode cX2_describeBoards 60 = .ok (.invokevirtual 51, 3) := by decide +kernel
theorem dX2_describeBoards_63 : decode cX2_describeBoards 63 = .ok (.istore 5, 2) := by decide +kernel
theorem dX2_describeBoards_65 : decode cX2_describeBoards 65 = .ok (.aload_n 0, 1) := by decide +kernel
theorem dX2_describeBoards_66 : decode cX2_describeBoards 66 = .ok (.getfield 38, 3) := by decide +kernel
theorem dX2_describeBoards_69 : decode cX2_describeBoards 69 = .ok (.iload_n 3, 1) := by decide +kernel
theorem dX2_describeBoards_70 : decode cX2_describeBoards 70 = .ok (.iload 5, 2) := by decide +kernel
theorem dX2_describeBoards_72 : decode cX2_describeBoards 72 = .ok (.iastore, 1) := by decide +kernel
theorem dX2_describeBoards_73 : decode cX2_describeBoards 73 = .ok (.aload_n 0, 1) := by decide +kernel
theorem dX2_describeBoards_74 : decode cX2_describeBoards 74 = .ok (.getfield 41, 3) := by decide +kernel
theorem dX2_describeBoards_77 : decode cX2_describeBoards 77 = .ok (.iload_n 3, 1) := by decide +kernel
theorem dX2_describeBoards_78 : decode cX2_describeBoards 78 = .ok (.iload 5, 2) := by decide +kernel
theorem dX2_describeBoards_80 : decode cX2_describeBoards 80 = .ok (.ifCond .ge 7, 3) := by decide +kernel
theorem dX2_describeBoards_83 : decode cX2_describeBoards 83 = .ok (.iconst 0, 1) := by decide +kernel
theorem dX2_describeBoards_84 : decode cX2_describeBoards 84 = .ok (.goto 22, 3) := by decide +kernel
theorem dX2_describeBoards_87 : decode cX2_describeBoards 87 = .ok (.iconst 0, 1) := by decide +kernel
theorem dX2_describeBoards_88 : decode cX2_describeBoards 88 = .ok (.aload_n 0, 1) := by decide +kernel
theorem dX2_describeBoards_89 : decode cX2_describeBoards 89 = .ok (.getfield 9, 3) := by decide +kernel
theorem dX2_describeBoards_92 : decode cX2_describeBoards 92 = .ok (.iload 5, 2) := by decide +kernel
theorem dX2_describeBoards_94 : decode cX2_describeBoards 94 = .ok (.iaload, 1) := by decide +kernel
theorem dX2_describeBoards_95 : decode cX2_describeBoards 95 = .ok (.iload 4, 2) := by decide +kernel
theorem dX2_describeBoards_97 : decode cX2_describeBoards 97 = .ok (.isub, 1) := by decide +kernel
theorem dX2_describeBoards_98 : decode cX2_describeBoards 98 = .ok (.aload_n 0, 1) := by decide +kernel
theorem dX2_describeBoards_99 : decode cX2_describeBoards 99 = .ok (.getfield 18, 3) := by decide +kernel
theorem dX2_describeBoards_102 : decode cX2_describeBoards 102 = .ok (.isub, 1) := by decide +kernel
theorem dX2_describeBoards_103 : decode cX2_describeBoards 103 = .ok (.invokestatic 81, 3) := by decide +kernel
theorem dX2_describeBoards_106 : decode cX2_describeBoards 106 = .ok (.iastore, 1) := by decide +kernel
theorem dX2_describeBoards_107 : decode cX2_describeBoards 107 = .ok (.iinc 3 1, 3) := by decide +kernel
theorem dX2_describeBoards_110 : decode cX2_describeBoards 110 = .ok (.goto (-108), 3) := by decide +kernel
theorem dX2_describeBoards_113 : decode cX2_describeBoards 113 = .ok (.return_, 1) := by decide +kernel
theorem dX3_init_0 : decode cX3_init 0 = .ok (.aload_n 0, 1) := by decide +kernel
theorem dX3_init_1 : decode cX3_init 1 = .ok (.invokespecial 3, 3) := by decide +kernel
theorem dX3_init_4 : decode cX3_init 4 = .ok (.aload_n 0, 1) := by decide +kernel
theorem dX3_init_5 : decode cX3_init 5 = .ok (.bipush 12, 2) := by decide +kernel
theorem dX3_init_7 : decode cX3_init 7 = .ok (.newarray .int, 2) := by decide +kernel
theorem dX3_init_9 : decode cX3_init 9 = .ok (.putfield 9, 3) := by decide +kernel
theorem dX3_init_12 : decode cX3_init 12 = .ok (.aload_n 0, 1) := by decide +kernel
theorem dX3_init_13 : decode cX3_init 13 = .ok (.bipush 12, 2) := by decide +kernel
theorem dX3_init_15 : decode cX3_init 15 = .ok (.newarray .int, 2) := by decide +kernel
theorem dX3_init_17 : decode cX3_init 17 = .ok (.putfield 15, 3) := by decide +kernel
theorem dX3_init_20 : decode cX3_init 20 = .ok (.return_, 1) := by decide +kernel
theorem dX3_put_0 : decode cX3_put 0 = .ok (.aload_n 0, 1) := by decide +kernel
theorem dX3_put_1 : decode cX3_put 1 = .ok (.getfield 9, 3) := by decide +kernel
theorem dX3_put_4 : decode cX3_put 4 = .ok (.iload_n 1, 1) := by decide +kernel
theorem dX3_put_5 : decode cX3_put 5 = .ok (.iaload, 1) := by decide +kernel
theorem dX3_put_6 : decode cX3_put 6 = .ok (.iload_n 2, 1) := by decide +kernel
theorem dX3_put_7 : decode cX3_put 7 = .ok (.ishr, 1) := by decide +kernel
theorem dX3_put_8 : decode cX3_put 8 = .ok (.iconst 1, 1) := by decide +kernel
theorem dX3_put_9 : decode cX3_put 9 = .ok (.iand, 1) := by decide +kernel
theorem dX3_put_10 : decode cX3_put 10 = .ok (.ifCond .eq 7, 3) := by decide +kernel
theorem dX3_put_13 : decode cX3_put 13 = .ok (.iconst 1, 1) := by decide +kernel
theorem dX3_put_14 : decode cX3_put 14 = .ok (.goto 4, 3) := by decide +kernel
theorem dX3_put_17 : decode cX3_put 17 = .ok (.iconst 0, 1) := by decide +kernel
theorem dX3_put_18 : decode cX3_put 18 = .ok (.istore 4, 2) := by decide +kernel
theorem dX3_put_20 : decode cX3_put 20 = .ok (.aload_n 0, 1) := by decide +kernel
theorem dX3_put_21 : decode cX3_put 21 = .ok (.getfield 9, 3) := by decide +kernel
theorem dX3_put_24 : decode cX3_put 24 = .ok (.iload_n 1, 1) := by decide +kernel
theorem dX3_put_25 : decode cX3_put 25 = .ok (.iload_n 3, 1) := by decide +kernel
theorem dX3_put_26 : decode cX3_put 26 = .ok (.ifCond .eq 16, 3) := by decide +kernel
theorem dX3_put_29 : decode cX3_put 29 = .ok (.aload_n 0, 1) := by decide +kernel
theorem dX3_put_30 : decode cX3_put 30 = .ok (.getfield 9, 3) := by decide +kernel
theorem dX3_put_33 : decode cX3_put 33 = .ok (.iload_n 1, 1) := by decide +kernel
theorem dX3_put_34 : decode cX3_put 34 = .ok (.iaload, 1) := by decide +kernel
theorem dX3_put_35 : decode cX3_put 35 = .ok (.iconst 1, 1) := by decide +kernel
theorem dX3_put_36 : decode cX3_put 36 = .ok (.iload_n 2, 1) := by decide +kernel
theorem dX3_put_37 : decode cX3_put 37 = .ok (.ishl, 1) := by decide +kernel
theorem dX3_put_38 : decode cX3_put 38 = .ok (.ior, 1) := by decide +kernel
theorem dX3_put_39 : decode cX3_put 39 = .ok (.goto 15, 3) := by decide +kernel
theorem dX3_put_42 : decode cX3_put 42 = .ok (.aload_n 0, 1) := by decide +kernel
theorem dX3_put_43 : decode cX3_put 43 = .ok (.getfield 9, 3) := by decide +kernel
theorem dX3_put_46 : decode cX3_put 46 = .ok (.iload_n 1, 1) := by decide +kernel
theorem dX3_put_47 : decode cX3_put 47 = .ok (.iaload, 1) := by decide +kernel
theorem dX3_put_48 : decode cX3_put 48 = .ok (.iconst 1, 1) := by decide +kernel
theorem dX3_put_49 : decode cX3_put 49 = .ok (.iload_n 2, 1) := by decide +kernel
theorem dX3_put_50 : decode cX3_put 50 = .ok (.ishl, 1) := by decide +kernel
theorem dX3_put_51 : decode cX3_put 51 = .ok (.iconst (-1), 1) := by decide +kernel
theorem dX3_put_52 : decode cX3_put 52 = .ok (.ixor, 1) := by decide +kernel
theorem dX3_put_53 : decode cX3_put 53 = .ok (.iand, 1) := by decide +kernel
theorem dX3_put_54 : decode cX3_put 54 = .ok (.iastore, 1) := by decide +kernel
theorem dX3_put_55 : decode cX3_put 55 = .ok (.iload 4, 2) := by decide +kernel
theorem dX3_put_57 : decode cX3_put 57 = .ok (.ireturn, 1) := by decide +kernel
theorem dX3_rests_0 : decode cX3_rests 0 = .ok (.aload_n 0, 1) := by decide +kernel
theorem dX3_rests_1 : decode cX3_rests 1 = .ok (.iload_n 1, 1) := by decide +kernel
theorem dX3_rests_2 : decode cX3_rests 2 = .ok (.invokevirtual 18, 3) := by decide +kernel
theorem dX3_rests_5 : decode cX3_rests 5 = .ok (.iload_n 2, 1) := by decide +kernel
theorem dX3_rests_6 : decode cX3_rests 6 = .ok (.ishr, 1) := by decide +kernel
theorem dX3_rests_7 : decode cX3_rests 7 = .ok (.iconst 1, 1) := by decide +kernel
theorem dX3_rests_8 : decode cX3_rests 8 = .ok (.iand, 1) := by decide +kernel
theorem dX3_rests_9 : decode cX3_rests 9 = .ok (.ifCond .eq 7, 3) := by decide +kernel
theorem dX3_rests_12 : decode cX3_rests 12 = .ok (.iconst 1, 1) := by decide +kernel
theorem dX3_rests_13 : decode cX3_rests 13 = .ok (.goto 4, 3) := by decide +kernel
theorem dX3_rests_16 : decode cX3_rests 16 = .ok (.iconst 0, 1) := by decide +kernel
theorem dX3_rests_17 : decode cX3_rests 17 = .ok (.ireturn, 1) := by decide +kernel
theorem dX3_allBelow_0 : decode cX3_allBelow 0 = .ok (.aload_n 0, 1) := by decide +kernel
theorem dX3_allBelow_1 : decode cX3_allBelow 1 = .ok (.getfield 9, 3) := by decide +kernel
theorem dX3_allBelow_4 : decode cX3_allBelow 4 = .ok (.iload_n 1, 1) := by decide +kernel
theorem dX3_allBelow_5 : decode cX3_allBelow 5 = .ok (.iaload, 1) := by decide +kernel
theorem dX3_allBelow_6 : decode cX3_allBelow 6 = .ok (.istore_n 2, 1) := by decide +kernel
theorem dX3_allBelow_7 : decode cX3_allBelow 7 = .ok (.iconst 1, 1) := by decide +kernel
theorem dX3_allBelow_8 : decode cX3_allBelow 8 = .ok (.istore_n 3, 1) := by decide +kernel
theorem dX3_allBelow_9 : decode cX3_allBelow 9 = .ok (.iload_n 3, 1) := by decide +kernel
theorem dX3_allBelow_10 : decode cX3_allBelow 10 = .ok (.bipush 12, 2) := by decide +kernel
theorem dX3_allBelow_12 : decode cX3_allBelow 12 = .ok (.if_icmp .ge 60, 3) := by decide +kernel
theorem dX3_allBelow_15 : decode cX3_allBelow 15 = .ok (.iload_n 2, 1) := by decide +kernel
theorem dX3_allBelow_16 : decode cX3_allBelow 16 = .ok (.istore 4, 2) := by decide +kernel
theorem dX3_allBelow_18 : decode cX3_allBelow 18 = .ok (.iconst 0, 1) := by decide +kernel
theorem dX3_allBelow_19 : decode cX3_allBelow 19 = .ok (.istore 5, 2) := by decide +kernel
theorem dX3_allBelow_21 : decode cX3_allBelow 21 = .ok (.iload 5, 2) := by decide +kernel
theorem dX3_allBelow_23 : decode cX3_allBelow 23 = .ok (.bipush 12, 2) := by decide +kernel
theorem dX3_allBelow_25 : decode cX3_allBelow 25 = .ok (.if_icmp .ge 30, 3) := by decide +kernel
theorem dX3_allBelow_28 : decode cX3_allBelow 28 = .ok (.iload_n 2, 1) := by decide +kernel
theorem dX3_allBelow_29 : decode cX3_allBelow 29 = .ok (.iload 5, 2) := by decide +kernel
theorem dX3_allBelow_31 : decode cX3_allBelow 31 = .ok (.ishr, 1) := by decide +kernel
theorem dX3_allBelow_32 : decode cX3_allBelow 32 = .ok (.iconst 1, 1) := by decide +kernel
theorem dX3_allBelow_33 : decode cX3_allBelow 33 = .ok (.iand, 1) := by decide +kernel
theorem dX3_allBelow_34 : decode cX3_allBelow 34 = .ok (.ifCond .eq 15, 3) := by decide +kernel
theorem dX3_allBelow_37 : decode cX3_allBelow 37 = .ok (.iload 4, 2) := by decide +kernel
theorem dX3_allBelow_39 : decode cX3_allBelow 39 = .ok (.aload_n 0, 1) := by decide +kernel
theorem dX3_allBelow_40 : decode cX3_allBelow 40 = .ok (.getfield 9, 3) := by decide +kernel
theorem dX3_allBelow_43 : decode cX3_allBelow 43 = .ok (.iload 5, 2) := by decide +kernel
theorem dX3_allBelow_45 : decode cX3_allBelow 45 = .ok (.iaload, 1) := by decide +kernel
theorem dX3_allBelow_46 : decode cX3_allBelow 46 = .ok (.ior, 1) := by decide +kernel
