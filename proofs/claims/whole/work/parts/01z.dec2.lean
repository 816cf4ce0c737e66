/-! decode rows (from claim/NAMES.whole.lean.txt) -/
theorem dX3_allBelow_47 : decode cX3_allBelow 47 = .ok (.istore 4, 2) := by decide +kernel
theorem dX3_allBelow_49 : decode cX3_allBelow 49 = .ok (.iinc 5 1, 3) := by decide +kernel
theorem dX3_allBelow_52 : decode cX3_allBelow 52 = .ok (.goto (-31), 3) := by decide +kernel
theorem dX3_allBelow_55 : decode cX3_allBelow 55 = .ok (.iload 4, 2) := by decide +kernel
theorem dX3_allBelow_57 : decode cX3_allBelow 57 = .ok (.iload_n 2, 1) := by decide +kernel
theorem dX3_allBelow_58 : decode cX3_allBelow 58 = .ok (.if_icmp .ne 5, 3) := by decide +kernel
theorem dX3_allBelow_61 : decode cX3_allBelow 61 = .ok (.iload_n 2, 1) := by decide +kernel
theorem dX3_allBelow_62 : decode cX3_allBelow 62 = .ok (.ireturn, 1) := by decide +kernel
theorem dX3_allBelow_63 : decode cX3_allBelow 63 = .ok (.iload 4, 2) := by decide +kernel
theorem dX3_allBelow_65 : decode cX3_allBelow 65 = .ok (.istore_n 2, 1) := by decide +kernel
theorem dX3_allBelow_66 : decode cX3_allBelow 66 = .ok (.iinc 3 1, 3) := by decide +kernel
theorem dX3_allBelow_69 : decode cX3_allBelow 69 = .ok (.goto (-60), 3) := by decide +kernel
theorem dX3_allBelow_72 : decode cX3_allBelow 72 = .ok (.iload_n 2, 1) := by decide +kernel
theorem dX3_allBelow_73 : decode cX3_allBelow 73 = .ok (.ireturn, 1) := by decide +kernel
theorem dX3_lineUp_0 : decode cX3_lineUp 0 = .ok (.iconst 0, 1) := by decide +kernel
theorem dX3_lineUp_1 : decode cX3_lineUp 1 = .ok (.istore_n 2, 1) := by decide +kernel
theorem dX3_lineUp_2 : decode cX3_lineUp 2 = .ok (.iconst 0, 1) := by decide +kernel
theorem dX3_lineUp_3 : decode cX3_lineUp 3 = .ok (.istore_n 3, 1) := by decide +kernel
theorem dX3_lineUp_4 : decode cX3_lineUp 4 = .ok (.iload_n 3, 1) := by decide +kernel
theorem dX3_lineUp_5 : decode cX3_lineUp 5 = .ok (.iload_n 1, 1) := by decide +kernel
theorem dX3_lineUp_6 : decode cX3_lineUp 6 = .ok (.if_icmp .ge 32, 3) := by decide +kernel
theorem dX3_lineUp_9 : decode cX3_lineUp 9 = .ok (.aload_n 0, 1) := by decide +kernel
theorem dX3_lineUp_10 : decode cX3_lineUp 10 = .ok (.iload_n 2, 1) := by decide +kernel
theorem dX3_lineUp_11 : decode cX3_lineUp 11 = .ok (.iload_n 1, 1) := by decide +kernel
theorem dX3_lineUp_12 : decode cX3_lineUp 12 = .ok (.invokevirtual 22, 3) := by decide +kernel
theorem dX3_lineUp_15 : decode cX3_lineUp 15 = .ok (.istore 4, 2) := by decide +kernel
theorem dX3_lineUp_17 : decode cX3_lineUp 17 = .ok (.aload_n 0, 1) := by decide +kernel
theorem dX3_lineUp_18 : decode cX3_lineUp 18 = .ok (.getfield 15, 3) := by decide +kernel
theorem dX3_lineUp_21 : decode cX3_lineUp 21 = .ok (.iload_n 3, 1) := by decide +kernel
theorem dX3_lineUp_22 : decode cX3_lineUp 22 = .ok (.iload 4, 2) := by decide +kernel
theorem dX3_lineUp_24 : decode cX3_lineUp 24 = .ok (.iastore, 1) := by decide +kernel
theorem dX3_lineUp_25 : decode cX3_lineUp 25 = .ok (.iload_n 2, 1) := by decide +kernel
theorem dX3_lineUp_26 : decode cX3_lineUp 26 = .ok (.iconst 1, 1) := by decide +kernel
theorem dX3_lineUp_27 : decode cX3_lineUp 27 = .ok (.iload 4, 2) := by decide +kernel
theorem dX3_lineUp_29 : decode cX3_lineUp 29 = .ok (.ishl, 1) := by decide +kernel
theorem dX3_lineUp_30 : decode cX3_lineUp 30 = .ok (.ior, 1) := by decide +kernel
theorem dX3_lineUp_31 : decode cX3_lineUp 31 = .ok (.istore_n 2, 1) := by decide +kernel
theorem dX3_lineUp_32 : decode cX3_lineUp 32 = .ok (.iinc 3 1, 3) := by decide +kernel
theorem dX3_lineUp_35 : decode cX3_lineUp 35 = .ok (.goto (-31), 3) := by decide +kernel
theorem dX3_lineUp_38 : decode cX3_lineUp 38 = .ok (.return_, 1) := by decide +kernel
theorem dX3_firstReady_0 : decode cX3_firstReady 0 = .ok (.iconst 0, 1) := by decide +kernel
theorem dX3_firstReady_1 : decode cX3_firstReady 1 = .ok (.istore_n 3, 1) := by decide +kernel
theorem dX3_firstReady_2 : decode cX3_firstReady 2 = .ok (.iload_n 3, 1) := by decide +kernel
theorem dX3_firstReady_3 : decode cX3_firstReady 3 = .ok (.iload_n 2, 1) := by decide +kernel
theorem dX3_firstReady_4 : decode cX3_firstReady 4 = .ok (.if_icmp .ge 32, 3) := by decide +kernel
theorem dX3_firstReady_7 : decode cX3_firstReady 7 = .ok (.iload_n 1, 1) := by decide +kernel
theorem dX3_firstReady_8 : decode cX3_firstReady 8 = .ok (.iload_n 3, 1) := by decide +kernel
theorem dX3_firstReady_9 : decode cX3_firstReady 9 = .ok (.ishr, 1) := by decide +kernel
theorem dX3_firstReady_10 : decode cX3_firstReady 10 = .ok (.iconst 1, 1) := by decide +kernel
theorem dX3_firstReady_11 : decode cX3_firstReady 11 = .ok (.iand, 1) := by decide +kernel
theorem dX3_firstReady_12 : decode cX3_firstReady 12 = .ok (.ifCond .ne 18, 3) := by decide +kernel
theorem dX3_firstReady_15 : decode cX3_firstReady 15 = .ok (.aload_n 0, 1) := by decide +kernel
theorem dX3_firstReady_16 : decode cX3_firstReady 16 = .ok (.getfield 9, 3) := by decide +kernel
theorem dX3_firstReady_19 : decode cX3_firstReady 19 = .ok (.iload_n 3, 1) := by decide +kernel
theorem dX3_firstReady_20 : decode cX3_firstReady 20 = .ok (.iaload, 1) := by decide +kernel
theorem dX3_firstReady_21 : decode cX3_firstReady 21 = .ok (.iload_n 1, 1) := by decide +kernel
theorem dX3_firstReady_22 : decode cX3_firstReady 22 = .ok (.iconst (-1), 1) := by decide +kernel
theorem dX3_firstReady_23 : decode cX3_firstReady 23 = .ok (.ixor, 1) := by decide +kernel
theorem dX3_firstReady_24 : decode cX3_firstReady 24 = .ok (.iand, 1) := by decide +kernel
theorem dX3_firstReady_25 : decode cX3_firstReady 25 = .ok (.ifCond .ne 5, 3) := by decide +kernel
theorem dX3_firstReady_28 : decode cX3_firstReady 28 = .ok (.iload_n 3, 1) := by decide +kernel
theorem dX3_firstReady_29 : decode cX3_firstReady 29 = .ok (.ireturn, 1) := by decide +kernel
theorem dX3_firstReady_30 : decode cX3_firstReady 30 = .ok (.iinc 3 1, 3) := by decide +kernel
theorem dX3_firstReady_33 : decode cX3_firstReady 33 = .ok (.goto (-31), 3) := by decide +kernel
theorem dX3_firstReady_36 : decode cX3_firstReady 36 = .ok (.iconst 0, 1) := by decide +kernel
theorem dX3_firstReady_37 : decode cX3_firstReady 37 = .ok (.ireturn, 1) := by decide +kernel
theorem dX4_init_0 : decode cX4_init 0 = .ok (.aload_n 0, 1) := by decide +kernel
theorem dX4_init_1 : decode cX4_init 1 = .ok (.invokespecial 3, 3) := by decide +kernel
theorem dX4_init_4 : decode cX4_init 4 = .ok (.aload_n 0, 1) := by decide +kernel
theorem dX4_init_5 : decode cX4_init 5 = .ok (.new 9, 3) := by decide +kernel
theorem dX4_init_8 : decode cX4_init 8 = .ok (.dup, 1) := by decide +kernel
theorem dX4_init_9 : decode cX4_init 9 = .ok (.invokespecial 11, 3) := by decide +kernel
theorem dX4_init_12 : decode cX4_init 12 = .ok (.putfield 12, 3) := by decide +kernel
theorem dX4_init_15 : decode cX4_init 15 = .ok (.aload_n 0, 1) := by decide +kernel
theorem dX4_init_16 : decode cX4_init 16 = .ok (.iconst 1, 1) := by decide +kernel
theorem dX4_init_17 : decode cX4_init 17 = .ok (.putfield 18, 3) := by decide +kernel
theorem dX4_init_20 : decode cX4_init 20 = .ok (.aload_n 0, 1) := by decide +kernel
theorem dX4_init_21 : decode cX4_init 21 = .ok (.sipush 599, 3) := by decide +kernel
theorem dX4_init_24 : decode cX4_init 24 = .ok (.putfield 22, 3) := by decide +kernel
theorem dX4_init_27 : decode cX4_init 27 = .ok (.aload_n 0, 1) := by decide +kernel
theorem dX4_init_28 : decode cX4_init 28 = .ok (.sipush 600, 3) := by decide +kernel
theorem dX4_init_31 : decode cX4_init 31 = .ok (.newarray .long, 2) := by decide +kernel
theorem dX4_init_33 : decode cX4_init 33 = .ok (.putfield 25, 3) := by decide +kernel
theorem dX4_init_36 : decode cX4_init 36 = .ok (.aload_n 0, 1) := by decide +kernel
theorem dX4_init_37 : decode cX4_init 37 = .ok (.sipush 600, 3) := by decide +kernel
theorem dX4_init_40 : decode cX4_init 40 = .ok (.newarray .long, 2) := by decide +kernel
theorem dX4_init_42 : decode cX4_init 42 = .ok (.putfield 29, 3) := by decide +kernel
theorem dX4_init_45 : decode cX4_init 45 = .ok (.aload_n 0, 1) := by decide +kernel
theorem dX4_init_46 : decode cX4_init 46 = .ok (.iload_n 1, 1) := by decide +kernel
theorem dX4_init_47 : decode cX4_init 47 = .ok (.putfield 32, 3) := by decide +kernel
theorem dX4_init_50 : decode cX4_init 50 = .ok (.aload_n 0, 1) := by decide +kernel
theorem dX4_init_51 : decode cX4_init 51 = .ok (.getfield 12, 3) := by decide +kernel
theorem dX4_init_54 : decode cX4_init 54 = .ok (.iload_n 2, 1) := by decide +kernel
theorem dX4_init_55 : decode cX4_init 55 = .ok (.i2l, 1) := by decide +kernel
theorem dX4_init_56 : decode cX4_init 56 = .ok (.putfield 35, 3) := by decide +kernel
theorem dX4_init_59 : decode cX4_init 59 = .ok (.aload_n 0, 1) := by decide +kernel
theorem dX4_init_60 : decode cX4_init 60 = .ok (.getfield 12, 3) := by decide +kernel
theorem dX4_init_63 : decode cX4_init 63 = .ok (.iload_n 3, 1) := by decide +kernel
theorem dX4_init_64 : decode cX4_init 64 = .ok (.putfield 39, 3) := by decide +kernel
theorem dX4_init_67 : decode cX4_init 67 = .ok (.aload_n 0, 1) := by decide +kernel
theorem dX4_init_68 : decode cX4_init 68 = .ok (.getfield 12, 3) := by decide +kernel
theorem dX4_init_71 : decode cX4_init 71 = .ok (.iload 4, 2) := by decide +kernel
theorem dX4_init_73 : decode cX4_init 73 = .ok (.putfield 42, 3) := by decide +kernel
theorem dX4_init_76 : decode cX4_init 76 = .ok (.aload_n 0, 1) := by decide +kernel
theorem dX4_init_77 : decode cX4_init 77 = .ok (.getfield 25, 3) := by decide +kernel
theorem dX4_init_80 : decode cX4_init 80 = .ok (.iload_n 1, 1) := by decide +kernel
theorem dX4_init_81 : decode cX4_init 81 = .ok (.iload_n 2, 1) := by decide +kernel
theorem dX4_init_82 : decode cX4_init 82 = .ok (.i2l, 1) := by decide +kernel
theorem dX4_init_83 : decode cX4_init 83 = .ok (.lastore, 1) := by decide +kernel
theorem dX4_init_84 : decode cX4_init 84 = .ok (.return_, 1) := by decide +kernel
theorem dX4_isOpen_0 : decode cX4_isOpen 0 = .ok (.aload_n 0, 1) := by decide +kernel
theorem dX4_isOpen_1 : decode cX4_isOpen 1 = .ok (.getfield 18, 3) := by decide +kernel
theorem dX4_isOpen_4 : decode cX4_isOpen 4 = .ok (.iconst 1, 1) := by decide +kernel
theorem dX4_isOpen_5 : decode cX4_isOpen 5 = .ok (.if_icmp .ne 7, 3) := by decide +kernel
theorem dX4_isOpen_8 : decode cX4_isOpen 8 = .ok (.iconst 1, 1) := by decide +kernel
theorem dX4_isOpen_9 : decode cX4_isOpen 9 = .ok (.goto 4, 3) := by decide +kernel
theorem dX4_isOpen_12 : decode cX4_isOpen 12 = .ok (.iconst 0, 1) := by decide +kernel
theorem dX4_isOpen_13 : decode cX4_isOpen 13 = .ok (.ireturn, 1) := by decide +kernel
theorem dX4_grow_0 : decode cX4_grow 0 = .ok (.aload_n 0, 1) := by decide +kernel
theorem dX4_grow_1 : decode cX4_grow 1 = .ok (.getfield 12, 3) := by decide +kernel
theorem dX4_grow_4 : decode cX4_grow 4 = .ok (.invokevirtual 45, 3) := by decide +kernel
theorem dX4_grow_7 : decode cX4_grow 7 = .ok (.aload_n 0, 1) := by decide +kernel
theorem dX4_grow_8 : decode cX4_grow 8 = .ok (.iload_n 1, 1) := by decide +kernel
theorem dX4_grow_9 : decode cX4_grow 9 = .ok (.invokevirtual 48, 3) := by decide +kernel
theorem dX4_grow_12 : decode cX4_grow 12 = .ok (.return_, 1) := by decide +kernel
theorem dX4_payIn_0 : decode cX4_payIn 0 = .ok (.iload_n 1, 1) := by decide +kernel
theorem dX4_payIn_1 : decode cX4_payIn 1 = .ok (.i2l, 1) := by decide +kernel
theorem dX4_payIn_2 : decode cX4_payIn 2 = .ok (.aload_n 0, 1) := by decide +kernel
theorem dX4_payIn_3 : decode cX4_payIn 3 = .ok (.getfield 12, 3) := by decide +kernel
theorem dX4_payIn_6 : decode cX4_payIn 6 = .ok (.getfield 35, 3) := by decide +kernel
theorem dX4_payIn_9 : decode cX4_payIn 9 = .ok (.invokestatic 52, 3) := by decide +kernel
theorem dX4_payIn_12 : decode cX4_payIn 12 = .ok (.lstore_n 3, 1) := by decide +kernel
theorem dX4_payIn_13 : decode cX4_payIn 13 = .ok (.aload_n 0, 1) := by decide +kernel
theorem dX4_payIn_14 : decode cX4_payIn 14 = .ok (.getfield 12, 3) := by decide +kernel
theorem dX4_payIn_17 : decode cX4_payIn 17 = .ok (.dup, 1) := by decide +kernel
theorem dX4_payIn_18 : decode cX4_payIn 18 = .ok (.getfield 35, 3) := by decide +kernel
theorem dX4_payIn_21 : decode cX4_payIn 21 = .ok (.lload_n 3, 1) := by decide +kernel
theorem dX4_payIn_22 : decode cX4_payIn 22 = .ok (.lsub, 1) := by decide +kernel
theorem dX4_payIn_23 : decode cX4_payIn 23 = .ok (.putfield 35, 3) := by decide +kernel
theorem dX4_payIn_26 : decode cX4_payIn 26 = .ok (.aload_n 0, 1) := by decide +kernel
theorem dX4_payIn_27 : decode cX4_payIn 27 = .ok (.getfield 12, 3) := by decide +kernel
theorem dX4_payIn_30 : decode cX4_payIn 30 = .ok (.lconst 0, 1) := by decide +kernel
theorem dX4_payIn_31 : decode cX4_payIn 31 = .ok (.aload_n 0, 1) := by decide +kernel
theorem dX4_payIn_32 : decode cX4_payIn 32 = .ok (.getfield 12, 3) := by decide +kernel
theorem dX4_payIn_35 : decode cX4_payIn 35 = .ok (.getfield 58, 3) := by decide +kernel
theorem dX4_payIn_38 : decode cX4_payIn 38 = .ok (.lload_n 3, 1) := by decide +kernel
theorem dX4_payIn_39 : decode cX4_payIn 39 = .ok (.lsub, 1) := by decide +kernel
theorem dX4_payIn_40 : decode cX4_payIn 40 = .ok (.invokestatic 61, 3) := by decide +kernel
theorem dX4_payIn_43 : decode cX4_payIn 43 = .ok (.putfield 58, 3) := by decide +kernel
theorem dX4_payIn_46 : decode cX4_payIn 46 = .ok (.aload_n 0, 1) := by decide +kernel
theorem dX4_payIn_47 : decode cX4_payIn 47 = .ok (.iload_n 2, 1) := by decide +kernel
theorem dX4_payIn_48 : decode cX4_payIn 48 = .ok (.invokevirtual 48, 3) := by decide +kernel
theorem dX4_payIn_51 : decode cX4_payIn 51 = .ok (.aload_n 0, 1) := by decide +kernel
theorem dX4_payIn_52 : decode cX4_payIn 52 = .ok (.getfield 12, 3) := by decide +kernel
theorem dX4_payIn_55 : decode cX4_payIn 55 = .ok (.getfield 35, 3) := by decide +kernel
theorem dX4_payIn_58 : decode cX4_payIn 58 = .ok (.lconst 0, 1) := by decide +kernel
theorem dX4_payIn_59 : decode cX4_payIn 59 = .ok (.lcmp, 1) := by decide +kernel
theorem dX4_payIn_60 : decode cX4_payIn 60 = .ok (.ifCond .ne 9, 3) := by decide +kernel
theorem dX4_payIn_63 : decode cX4_payIn 63 = .ok (.aload_n 0, 1) := by decide +kernel
theorem dX4_payIn_64 : decode cX4_payIn 64 = .ok (.iconst 2, 1) := by decide +kernel
theorem dX4_payIn_65 : decode cX4_payIn 65 = .ok (.iload_n 2, 1) := by decide +kernel
theorem dX4_payIn_66 : decode cX4_payIn 66 = .ok (.invokevirtual 64, 3) := by decide +kernel
theorem dX4_payIn_69 : decode cX4_payIn 69 = .ok (.lload_n 3, 1) := by decide +kernel
theorem dX4_payIn_70 : decode cX4_payIn 70 = .ok (.l2i, 1) := by decide +kernel
theorem dX4_payIn_71 : decode cX4_payIn 71 = .ok (.ireturn, 1) := by decide +kernel
theorem dX4_close_0 : decode cX4_close 0 = .ok (.aload_n 0, 1) := by decide +kernel
theorem dX4_close_1 : decode cX4_close 1 = .ok (.iload_n 1, 1) := by decide +kernel
theorem dX4_close_2 : decode cX4_close 2 = .ok (.putfield 18, 3) := by decide +kernel
theorem dX4_close_5 : decode cX4_close 5 = .ok (.aload_n 0, 1) := by decide +kernel
theorem dX4_close_6 : decode cX4_close 6 = .ok (.iload_n 2, 1) := by decide +kernel
theorem dX4_close_7 : decode cX4_close 7 = .ok (.putfield 22, 3) := by decide +kernel
theorem dX4_close_10 : decode cX4_close 10 = .ok (.return_, 1) := by decide +kernel
theorem dX4_owedIn_0 : decode cX4_owedIn 0 = .ok (.iload_n 1, 1) := by decide +kernel
theorem dX4_owedIn_1 : decode cX4_owedIn 1 = .ok (.aload_n 0, 1) := by decide +kernel
theorem dX4_owedIn_2 : decode cX4_owedIn 2 = .ok (.getfield 32, 3) := by decide +kernel
theorem dX4_owedIn_5 : decode cX4_owedIn 5 = .ok (.if_icmp .ge 7, 3) := by decide +kernel
theorem dX4_owedIn_8 : decode cX4_owedIn 8 = .ok (.lconst 0, 1) := by decide +kernel
theorem dX4_owedIn_9 : decode cX4_owedIn 9 = .ok (.goto 16, 3) := by decide +kernel
theorem dX4_owedIn_12 : decode cX4_owedIn 12 = .ok (.aload_n 0, 1) := by decide +kernel
theorem dX4_owedIn_13 : decode cX4_owedIn 13 = .ok (.getfield 25, 3) := by decide +kernel
theorem dX4_owedIn_16 : decode cX4_owedIn 16 = .ok (.iload_n 1, 1) := by decide +kernel
theorem dX4_owedIn_17 : decode cX4_owedIn 17 = .ok (.aload_n 0, 1) := by decide +kernel
theorem dX4_owedIn_18 : decode cX4_owedIn 18 = .ok (.getfield 22, 3) := by decide +kernel
theorem dX4_owedIn_21 : decode cX4_owedIn 21 = .ok (.invokestatic 68, 3) := by decide +kernel
theorem dX4_owedIn_24 : decode cX4_owedIn 24 = .ok (.laload, 1) := by decide +kernel
theorem dX4_owedIn_25 : decode cX4_owedIn 25 = .ok (.lreturn, 1) := by decide +kernel
theorem dX4_dueIn_0 : decode cX4_dueIn 0 = .ok (.iload_n 1, 1) := by decide +kernel
theorem dX4_dueIn_1 : decode cX4_dueIn 1 = .ok (.aload_n 0, 1) := by decide +kernel
theorem dX4_dueIn_2 : decode cX4_dueIn 2 = .ok (.getfield 32, 3) := by decide +kernel
theorem dX4_dueIn_5 : decode cX4_dueIn 5 = .ok (.if_icmp .ge 7, 3) := by decide +kernel
theorem dX4_dueIn_8 : decode cX4_dueIn 8 = .ok (.lconst 0, 1) := by decide +kernel
theorem dX4_dueIn_9 : decode cX4_dueIn 9 = .ok (.goto 16, 3) := by decide +kernel
theorem dX4_dueIn_12 : decode cX4_dueIn 12 = .ok (.aload_n 0, 1) := by decide +kernel
theorem dX4_dueIn_13 : decode cX4_dueIn 13 = .ok (.getfield 29, 3) := by decide +kernel
theorem dX4_dueIn_16 : decode cX4_dueIn 16 = .ok (.iload_n 1, 1) := by decide +kernel
theorem dX4_dueIn_17 : decode cX4_dueIn 17 = .ok (.aload_n 0, 1) := by decide +kernel
theorem dX4_dueIn_18 : decode cX4_dueIn 18 = .ok (.getfield 22, 3) := by decide +kernel
theorem dX4_dueIn_21 : decode cX4_dueIn 21 = .ok (.invokestatic 68, 3) := by decide +kernel
theorem dX4_dueIn_24 : decode cX4_dueIn 24 = .ok (.laload, 1) := by decide +kernel
theorem dX4_dueIn_25 : decode cX4_dueIn 25 = .ok (.lreturn, 1) := by decide +kernel
theorem dX4_howIn_0 : decode cX4_howIn 0 = .ok (.iload_n 1, 1) := by decide +kernel
theorem dX4_howIn_1 : decode cX4_howIn 1 = .ok (.aload_n 0, 1) := by decide +kernel
theorem dX4_howIn_2 : decode cX4_howIn 2 = .ok (.getfield 32, 3) := by decide +kernel
theorem dX4_howIn_5 : decode cX4_howIn 5 = .ok (.if_icmp .ge 5, 3) := by decide +kernel
theorem dX4_howIn_8 : decode cX4_howIn 8 = .ok (.iconst 0, 1) := by decide +kernel
theorem dX4_howIn_9 : decode cX4_howIn 9 = .ok (.ireturn, 1) := by decide +kernel
theorem dX4_howIn_10 : decode cX4_howIn 10 = .ok (.iload_n 1, 1) := by decide +kernel
theorem dX4_howIn_11 : decode cX4_howIn 11 = .ok (.aload_n 0, 1) := by decide +kernel
theorem dX4_howIn_12 : decode cX4_howIn 12 = .ok (.getfield 22, 3) := by decide +kernel
theorem dX4_howIn_15 : decode cX4_howIn 15 = .ok (.if_icmp .ge 7, 3) := by decide +kernel
theorem dX4_howIn_18 : decode cX4_howIn 18 = .ok (.iconst 1, 1) := by decide +kernel
theorem dX4_howIn_19 : decode cX4_howIn 19 = .ok (.goto 7, 3) := by decide +kernel
theorem dX4_howIn_22 : decode cX4_howIn 22 = .ok (.aload_n 0, 1) := by decide +kernel
theorem dX4_howIn_23 : decode cX4_howIn 23 = .ok (.getfield 18, 3) := by decide +kernel
theorem dX4_howIn_26 : decode cX4_howIn 26 = .ok (.ireturn, 1) := by decide +kernel
theorem dX4_writeDown_0 : decode cX4_writeDown 0 = .ok (.aload_n 0, 1) := by decide +kernel
theorem dX4_writeDown_1 : decode cX4_writeDown 1 = .ok (.getfield 25, 3) := by decide +kernel
theorem dX4_writeDown_4 : decode cX4_writeDown 4 = .ok (.iload_n 1, 1) := by decide +kernel
theorem dX4_writeDown_5 : decode cX4_writeDown 5 = .ok (.aload_n 0, 1) := by decide +kernel
theorem dX4_writeDown_6 : decode cX4_writeDown 6 = .ok (.getfield 12, 3) := by decide +kernel
theorem dX4_writeDown_9 : decode cX4_writeDown 9 = .ok (.getfield 35, 3) := by decide +kernel
theorem dX4_writeDown_12 : decode cX4_writeDown 12 = .ok (.lastore, 1) := by decide +kernel
theorem dX4_writeDown_13 : decode cX4_writeDown 13 = .ok (.aload_n 0, 1) := by decide +kernel
theorem dX4_writeDown_14 : decode cX4_writeDown 14 = .ok (.getfield 29, 3) := by decide +kernel
theorem dX4_writeDown_17 : decode cX4_writeDown 17 = .ok (.iload_n 1, 1) := by decide +kernel
theorem dX4_writeDown_18 : decode cX4_writeDown 18 = .ok (.aload_n 0, 1) := by decide +kernel
theorem dX4_writeDown_19 : decode cX4_writeDown 19 = .ok (.getfield 12, 3) := by decide +kernel
theorem dX4_writeDown_22 : decode cX4_writeDown 22 = .ok (.getfield 58, 3) := by decide +kernel
theorem dX4_writeDown_25 : decode cX4_writeDown 25 = .ok (.lastore, 1) := by decide +kernel
theorem dX4_writeDown_26 : decode cX4_writeDown 26 = .ok (.return_, 1) := by decide +kernel
theorem dX5_init_0 : decode cX5_init 0 = .ok (.aload_n 0, 1) := by decide +kernel
theorem dX5_init_1 : decode cX5_init 1 = .ok (.invokespecial 3, 3) := by decide +kernel
theorem dX5_init_4 : decode cX5_init 4 = .ok (.aload_n 0, 1) := by decide +kernel
theorem dX5_init_5 : decode cX5_init 5 = .ok (.bipush 100, 2) := by decide +kernel
theorem dX5_init_7 : decode cX5_init 7 = .ok (.putfield 9, 3) := by decide +kernel
theorem dX5_init_10 : decode cX5_init 10 = .ok (.aload_n 0, 1) := by decide +kernel
theorem dX5_init_11 : decode cX5_init 11 = .ok (.iconst 0, 1) := by decide +kernel
theorem dX5_init_12 : decode cX5_init 12 = .ok (.putfield 15, 3) := by decide +kernel
theorem dX5_init_15 : decode cX5_init 15 = .ok (.aload_n 0, 1) := by decide +kernel
theorem dX5_init_16 : decode cX5_init 16 = .ok (.iconst 0, 1) := by decide +kernel
theorem dX5_init_17 : decode cX5_init 17 = .ok (.putfield 18, 3) := by decide +kernel
theorem dX5_init_20 : decode cX5_init 20 = .ok (.aload_n 0, 1) := by decide +kernel
theorem dX5_init_21 : decode cX5_init 21 = .ok (.bipush 12, 2) := by decide +kernel
theorem dX5_init_23 : decode cX5_init 23 = .ok (.newarray .int, 2) := by decide +kernel
theorem dX5_init_25 : decode cX5_init 25 = .ok (.putfield 21, 3) := by decide +kernel
theorem dX5_init_28 : decode cX5_init 28 = .ok (.aload_n 0, 1) := by decide +kernel
theorem dX5_init_29 : decode cX5_init 29 = .ok (.bipush 12, 2) := by decide +kernel
theorem dX5_init_31 : decode cX5_init 31 = .ok (.newarray .int, 2) := by decide +kernel
theorem dX5_init_33 : decode cX5_init 33 = .ok (.putfield 25, 3) := by decide +kernel
theorem dX5_init_36 : decode cX5_init 36 = .ok (.aload_n 0, 1) := by decide +kernel
theorem dX5_init_37 : decode cX5_init 37 = .ok (.bipush 12, 2) := by decide +kernel
theorem dX5_init_39 : decode cX5_init 39 = .ok (.newarray .int, 2) := by decide +kernel
theorem dX5_init_41 : decode cX5_init 41 = .ok (.putfield 28, 3) := by decide +kernel
theorem dX5_init_44 : decode cX5_init 44 = .ok (.aload_n 0, 1) := by decide +kernel
theorem dX5_init_45 : decode cX5_init 45 = .ok (.bipush 12, 2) := by decide +kernel
theorem dX5_init_47 : decode cX5_init 47 = .ok (.newarray .boolean, 2) := by decide +kernel
theorem dX5_init_49 : decode cX5_init 49 = .ok (.putfield 31, 3) := by decide +kernel
theorem dX5_init_52 : decode cX5_init 52 = .ok (.aload_n 0, 1) := by decide +kernel
theorem dX5_init_53 : decode cX5_init 53 = .ok (.bipush 20, 2) := by decide +kernel
theorem dX5_init_55 : decode cX5_init 55 = .ok (.newarray .int, 2) := by decide +kernel
theorem dX5_init_57 : decode cX5_init 57 = .ok (.putfield 35, 3) := by decide +kernel
theorem dX5_init_60 : decode cX5_init 60 = .ok (.aload_n 0, 1) := by decide +kernel
theorem dX5_init_61 : decode cX5_init 61 = .ok (.bipush 20, 2) := by decide +kernel
theorem dX5_init_63 : decode cX5_init 63 = .ok (.newarray .int, 2) := by decide +kernel
theorem dX5_init_65 : decode cX5_init 65 = .ok (.putfield 38, 3) := by decide +kernel
theorem dX5_init_68 : decode cX5_init 68 = .ok (.aload_n 0, 1) := by decide +kernel
theorem dX5_init_69 : decode cX5_init 69 = .ok (.bipush 20, 2) := by decide +kernel
theorem dX5_init_71 : decode cX5_init 71 = .ok (.newarray .int, 2) := by decide +kernel
theorem dX5_init_73 : decode cX5_init 73 = .ok (.putfield 41, 3) := by decide +kernel
theorem dX5_init_76 : decode cX5_init 76 = .ok (.aload_n 0, 1) := by decide +kernel
theorem dX5_init_77 : decode cX5_init 77 = .ok (.bipush 20, 2) := by decide +kernel
theorem dX5_init_79 : decode cX5_init 79 = .ok (.newarray .int, 2) := by decide +kernel
theorem dX5_init_81 : decode cX5_init 81 = .ok (.putfield 44, 3) := by decide +kernel
theorem dX5_init_84 : decode cX5_init 84 = .ok (.return_, 1) := by decide +kernel
theorem dX5_has_0 : decode cX5_has 0 = .ok (.iload_n 1, 1) := by decide +kernel
theorem dX5_has_1 : decode cX5_has 1 = .ok (.ifCond .lt 15, 3) := by decide +kernel
theorem dX5_has_4 : decode cX5_has 4 = .ok (.iload_n 1, 1) := by decide +kernel
theorem dX5_has_5 : decode cX5_has 5 = .ok (.aload_n 0, 1) := by decide +kernel
theorem dX5_has_6 : decode cX5_has 6 = .ok (.getfield 15, 3) := by decide +kernel
theorem dX5_has_9 : decode cX5_has 9 = .ok (.if_icmp .ge 7, 3) := by decide +kernel
theorem dX5_has_12 : decode cX5_has 12 = .ok (.iconst 1, 1) := by decide +kernel
theorem dX5_has_13 : decode cX5_has 13 = .ok (.goto 4, 3) := by decide +kernel
theorem dX5_has_16 : decode cX5_has 16 = .ok (.iconst 0, 1) := by decide +kernel
theorem dX5_has_17 : decode cX5_has 17 = .ok (.ireturn, 1) := by decide +kernel
theorem dX5_addPiece_0 : decode cX5_addPiece 0 = .ok (.aload_n 0, 1) := by decide +kernel
theorem dX5_addPiece_1 : decode cX5_addPiece 1 = .ok (.getfield 15, 3) := by decide +kernel
theorem dX5_addPiece_4 : decode cX5_addPiece 4 = .ok (.istore 5, 2) := by decide +kernel
theorem dX5_addPiece_6 : decode cX5_addPiece 6 = .ok (.aload_n 0, 1) := by decide +kernel
theorem dX5_addPiece_7 : decode cX5_addPiece 7 = .ok (.getfield 21, 3) := by decide +kernel
theorem dX5_addPiece_10 : decode cX5_addPiece 10 = .ok (.iload 5, 2) := by decide +kernel
theorem dX5_addPiece_12 : decode cX5_addPiece 12 = .ok (.iload_n 1, 1) := by decide +kernel
theorem dX5_addPiece_13 : decode cX5_addPiece 13 = .ok (.iastore, 1) := by decide +kernel
theorem dX5_addPiece_14 : decode cX5_addPiece 14 = .ok (.aload_n 0, 1) := by decide +kernel
theorem dX5_addPiece_15 : decode cX5_addPiece 15 = .ok (.getfield 25, 3) := by decide +kernel
theorem dX5_addPiece_18 : decode cX5_addPiece 18 = .ok (.iload 5, 2) := by decide +kernel
theorem dX5_addPiece_20 : decode cX5_addPiece 20 = .ok (.iload_n 2, 1) := by decide +kernel
theorem dX5_addPiece_21 : decode cX5_addPiece 21 = .ok (.iastore, 1) := by decide +kernel
theorem dX5_addPiece_22 : decode cX5_addPiece 22 = .ok (.aload_n 0, 1) := by decide +kernel
theorem dX5_addPiece_23 : decode cX5_addPiece 23 = .ok (.getfield 28, 3) := by decide +kernel
theorem dX5_addPiece_26 : decode cX5_addPiece 26 = .ok (.iload 5, 2) := by decide +kernel
theorem dX5_addPiece_28 : decode cX5_addPiece 28 = .ok (.iload_n 3, 1) := by decide +kernel
theorem dX5_addPiece_29 : decode cX5_addPiece 29 = .ok (.iastore, 1) := by decide +kernel
theorem dX5_addPiece_30 : decode cX5_addPiece 30 = .ok (.aload_n 0, 1) := by decide +kernel
theorem dX5_addPiece_31 : decode cX5_addPiece 31 = .ok (.getfield 31, 3) := by decide +kernel
theorem dX5_addPiece_34 : decode cX5_addPiece 34 = .ok (.iload 5, 2) := by decide +kernel
theorem dX5_addPiece_36 : decode cX5_addPiece 36 = .ok (.iload 4, 2) := by decide +kernel
theorem dX5_addPiece_38 : decode cX5_addPiece 38 = .ok (.bastore, 1) := by decide +kernel
theorem dX5_addPiece_39 : decode cX5_addPiece 39 = .ok (.aload_n 0, 1) := by decide +kernel
theorem dX5_addPiece_40 : decode cX5_addPiece 40 = .ok (.iload 5, 2) := by decide +kernel
theorem dX5_addPiece_42 : decode cX5_addPiece 42 = .ok (.iconst 1, 1) := by decide +kernel
theorem dX5_addPiece_43 : decode cX5_addPiece 43 = .ok (.iadd, 1) := by decide +kernel
theorem dX5_addPiece_44 : decode cX5_addPiece 44 = .ok (.putfield 15, 3) := by decide +kernel
theorem dX5_addPiece_47 : decode cX5_addPiece 47 = .ok (.iload 5, 2) := by decide +kernel
theorem dX5_addPiece_49 : decode cX5_addPiece 49 = .ok (.ireturn, 1) := by decide +kernel
theorem dX5_addMeeting_0 : decode cX5_addMeeting 0 = .ok (.aload_n 0, 1) := by decide +kernel
theorem dX5_addMeeting_1 : decode cX5_addMeeting 1 = .ok (.getfield 18, 3) := by decide +kernel
theorem dX5_addMeeting_4 : decode cX5_addMeeting 4 = .ok (.istore 5, 2) := by decide +kernel
theorem dX5_addMeeting_6 : decode cX5_addMeeting 6 = .ok (.aload_n 0, 1) := by decide +kernel
theorem dX5_addMeeting_7 : decode cX5_addMeeting 7 = .ok (.getfield 35, 3) := by decide +kernel
theorem dX5_addMeeting_10 : decode cX5_addMeeting 10 = .ok (.iload 5, 2) := by decide +kernel
theorem dX5_addMeeting_12 : decode cX5_addMeeting 12 = .ok (.iload_n 1, 1) := by decide +kernel
theorem dX5_addMeeting_13 : decode cX5_addMeeting 13 = .ok (.iastore, 1) := by decide +kernel
theorem dX5_addMeeting_14 : decode cX5_addMeeting 14 = .ok (.aload_n 0, 1) := by decide +kernel
theorem dX5_addMeeting_15 : decode cX5_addMeeting 15 = .ok (.getfield 38, 3) := by decide +kernel
theorem dX5_addMeeting_18 : decode cX5_addMeeting 18 = .ok (.iload 5, 2) := by decide +kernel
theorem dX5_addMeeting_20 : decode cX5_addMeeting 20 = .ok (.iload_n 2, 1) := by decide +kernel
theorem dX5_addMeeting_21 : decode cX5_addMeeting 21 = .ok (.iastore, 1) := by decide +kernel
theorem dX5_addMeeting_22 : decode cX5_addMeeting 22 = .ok (.aload_n 0, 1) := by decide +kernel
theorem dX5_addMeeting_23 : decode cX5_addMeeting 23 = .ok (.getfield 41, 3) := by decide +kernel
theorem dX5_addMeeting_26 : decode cX5_addMeeting 26 = .ok (.iload 5, 2) := by decide +kernel
theorem dX5_addMeeting_28 : decode cX5_addMeeting 28 = .ok (.iload_n 3, 1) := by decide +kernel
theorem dX5_addMeeting_29 : decode cX5_addMeeting 29 = .ok (.iastore, 1) := by decide +kernel
theorem dX5_addMeeting_30 : decode cX5_addMeeting 30 = .ok (.aload_n 0, 1) := by decide +kernel
theorem dX5_addMeeting_31 : decode cX5_addMeeting 31 = .ok (.getfield 44, 3) := by decide +kernel
theorem dX5_addMeeting_34 : decode cX5_addMeeting 34 = .ok (.iload 5, 2) := by decide +kernel
theorem dX5_addMeeting_36 : decode cX5_addMeeting 36 = .ok (.iload 4, 2) := by decide +kernel
theorem dX5_addMeeting_38 : decode cX5_addMeeting 38 = .ok (.iastore, 1) := by decide +kernel
theorem dX5_addMeeting_39 : decode cX5_addMeeting 39 = .ok (.aload_n 0, 1) := by decide +kernel
theorem dX5_addMeeting_40 : decode cX5_addMeeting 40 = .ok (.iload 5, 2) := by decide +kernel
theorem dX5_addMeeting_42 : decode cX5_addMeeting 42 = .ok (.iconst 1, 1) := by decide +kernel
theorem dX5_addMeeting_43 : decode cX5_addMeeting 43 = .ok (.iadd, 1) := by decide +kernel
theorem dX5_addMeeting_44 : decode cX5_addMeeting 44 = .ok (.putfield 18, 3) := by decide +kernel
theorem dX5_addMeeting_47 : decode cX5_addMeeting 47 = .ok (.iload 5, 2) := by decide +kernel
theorem dX5_addMeeting_49 : decode cX5_addMeeting 49 = .ok (.ireturn, 1) := by decide +kernel
theorem dX5_holds_0 : decode cX5_holds 0 = .ok (.aload_n 0, 1) := by decide +kernel
theorem dX5_holds_1 : decode cX5_holds 1 = .ok (.aload_n 0, 1) := by decide +kernel
theorem dX5_holds_2 : decode cX5_holds 2 = .ok (.getfield 35, 3) := by decide +kernel
theorem dX5_holds_5 : decode cX5_holds 5 = .ok (.iload_n 1, 1) := by decide +kernel
theorem dX5_holds_6 : decode cX5_holds 6 = .ok (.iaload, 1) := by decide +kernel
theorem dX5_holds_7 : decode cX5_holds 7 = .ok (.aload_n 0, 1) := by decide +kernel
theorem dX5_holds_8 : decode cX5_holds 8 = .ok (.getfield 38, 3) := by decide +kernel
theorem dX5_holds_11 : decode cX5_holds 11 = .ok (.iload_n 1, 1) := by decide +kernel
theorem dX5_holds_12 : decode cX5_holds 12 = .ok (.iaload, 1) := by decide +kernel
theorem dX5_holds_13 : decode cX5_holds 13 = .ok (.invokevirtual 47, 3) := by decide +kernel
theorem dX5_holds_16 : decode cX5_holds 16 = .ok (.aload_n 0, 1) := by decide +kernel
theorem dX5_holds_17 : decode cX5_holds 17 = .ok (.aload_n 0, 1) := by decide +kernel
theorem dX5_holds_18 : decode cX5_holds 18 = .ok (.getfield 41, 3) := by decide +kernel
theorem dX5_holds_21 : decode cX5_holds 21 = .ok (.iload_n 1, 1) := by decide +kernel
theorem dX5_holds_22 : decode cX5_holds 22 = .ok (.iaload, 1) := by decide +kernel
theorem dX5_holds_23 : decode cX5_holds 23 = .ok (.aload_n 0, 1) := by decide +kernel
theorem dX5_holds_24 : decode cX5_holds 24 = .ok (.getfield 44, 3) := by decide +kernel
theorem dX5_holds_27 : decode cX5_holds 27 = .ok (.iload_n 1, 1) := by decide +kernel
theorem dX5_holds_28 : decode cX5_holds 28 = .ok (.iaload, 1) := by decide +kernel
theorem dX5_holds_29 : decode cX5_holds 29 = .ok (.invokevirtual 47, 3) := by decide +kernel
theorem dX5_holds_32 : decode cX5_holds 32 = .ok (.if_icmp .ne 7, 3) := by decide +kernel
theorem dX5_holds_35 : decode cX5_holds 35 = .ok (.iconst 1, 1) := by decide +kernel
theorem dX5_holds_36 : decode cX5_holds 36 = .ok (.goto 4, 3) := by decide +kernel
theorem dX5_holds_39 : decode cX5_holds 39 = .ok (.iconst 0, 1) := by decide +kernel
theorem dX5_holds_40 : decode cX5_holds 40 = .ok (.ireturn, 1) := by decide +kernel
theorem dX5_canTurnRound_0 : decode cX5_canTurnRound 0 = .ok (.iconst 0, 1) := by decide +kernel
theorem dX5_canTurnRound_1 : decode cX5_canTurnRound 1 = .ok (.istore_n 1, 1) := by decide +kernel
theorem dX5_canTurnRound_2 : decode cX5_canTurnRound 2 = .ok (.iload_n 1, 1) := by decide +kernel
theorem dX5_canTurnRound_3 : decode cX5_canTurnRound 3 = .ok (.aload_n 0, 1) := by decide +kernel
theorem dX5_canTurnRound_4 : decode cX5_canTurnRound 4 = .ok (.getfield 15, 3) := by decide +kernel
theorem dX5_canTurnRound_7 : decode cX5_canTurnRound 7 = .ok (.if_icmp .ge 25, 3) := by decide +kernel
theorem dX5_canTurnRound_10 : decode cX5_canTurnRound 10 = .ok (.aload_n 0, 1) := by decide +kernel
theorem dX5_canTurnRound_11 : decode cX5_canTurnRound 11 = .ok (.getfield 9, 3) := by decide +kernel
theorem dX5_canTurnRound_14 : decode cX5_canTurnRound 14 = .ok (.aload_n 0, 1) := by decide +kernel
theorem dX5_canTurnRound_15 : decode cX5_canTurnRound 15 = .ok (.iload_n 1, 1) := by decide +kernel
theorem dX5_canTurnRound_16 : decode cX5_canTurnRound 16 = .ok (.iconst 1, 1) := by decide +kernel
theorem dX5_canTurnRound_17 : decode cX5_canTurnRound 17 = .ok (.invokevirtual 47, 3) := by decide +kernel
theorem dX5_canTurnRound_20 : decode cX5_canTurnRound 20 = .ok (.isub, 1) := by decide +kernel
theorem dX5_canTurnRound_21 : decode cX5_canTurnRound 21 = .ok (.ifCond .ge 5, 3) := by decide +kernel
theorem dX5_canTurnRound_24 : decode cX5_canTurnRound 24 = .ok (.iconst 0, 1) := by decide +kernel
theorem dX5_canTurnRound_25 : decode cX5_canTurnRound 25 = .ok (.ireturn, 1) := by decide +kernel
theorem dX5_canTurnRound_26 : decode cX5_canTurnRound 26 = .ok (.iinc 1 1, 3) := by decide +kernel
theorem dX5_canTurnRound_29 : decode cX5_canTurnRound 29 = .ok (.goto (-27), 3) := by decide +kernel
theorem dX5_canTurnRound_32 : decode cX5_canTurnRound 32 = .ok (.iconst 1, 1) := by decide +kernel
theorem dX5_canTurnRound_33 : decode cX5_canTurnRound 33 = .ok (.ireturn, 1) := by decide +kernel
theorem dX5_turnRound_0 : decode cX5_turnRound 0 = .ok (.iconst 0, 1) := by decide +kernel
theorem dX5_turnRound_1 : decode cX5_turnRound 1 = .ok (.istore_n 1, 1) := by decide +kernel
theorem dX5_turnRound_2 : decode cX5_turnRound 2 = .ok (.iconst 0, 1) := by decide +kernel
theorem dX5_turnRound_3 : decode cX5_turnRound 3 = .ok (.istore_n 2, 1) := by decide +kernel
theorem dX5_turnRound_4 : decode cX5_turnRound 4 = .ok (.iload_n 2, 1) := by decide +kernel
theorem dX5_turnRound_5 : decode cX5_turnRound 5 = .ok (.aload_n 0, 1) := by decide +kernel
theorem dX5_turnRound_6 : decode cX5_turnRound 6 = .ok (.getfield 15, 3) := by decide +kernel
theorem dX5_turnRound_9 : decode cX5_turnRound 9 = .ok (.if_icmp .ge 41, 3) := by decide +kernel
theorem dX5_turnRound_12 : decode cX5_turnRound 12 = .ok (.aload_n 0, 1) := by decide +kernel
theorem dX5_turnRound_13 : decode cX5_turnRound 13 = .ok (.getfield 9, 3) := by decide +kernel
theorem dX5_turnRound_16 : decode cX5_turnRound 16 = .ok (.aload_n 0, 1) := by decide +kernel
theorem dX5_turnRound_17 : decode cX5_turnRound 17 = .ok (.iload_n 2, 1) := by decide +kernel
theorem dX5_turnRound_18 : decode cX5_turnRound 18 = .ok (.iconst 1, 1) := by decide +kernel
theorem dX5_turnRound_19 : decode cX5_turnRound 19 = .ok (.invokevirtual 47, 3) := by decide +kernel
theorem dX5_turnRound_22 : decode cX5_turnRound 22 = .ok (.isub, 1) := by decide +kernel
theorem dX5_turnRound_23 : decode cX5_turnRound 23 = .ok (.istore_n 3, 1) := by decide +kernel
theorem dX5_turnRound_24 : decode cX5_turnRound 24 = .ok (.iload_n 3, 1) := by decide +kernel
theorem dX5_turnRound_25 : decode cX5_turnRound 25 = .ok (.aload_n 0, 1) := by decide +kernel
theorem dX5_turnRound_26 : decode cX5_turnRound 26 = .ok (.getfield 21, 3) := by decide +kernel
theorem dX5_turnRound_29 : decode cX5_turnRound 29 = .ok (.iload_n 2, 1) := by decide +kernel
theorem dX5_turnRound_30 : decode cX5_turnRound 30 = .ok (.iaload, 1) := by decide +kernel
theorem dX5_turnRound_31 : decode cX5_turnRound 31 = .ok (.if_icmp .eq 6, 3) := by decide +kernel
theorem dX5_turnRound_34 : decode cX5_turnRound 34 = .ok (.iinc 1 1, 3) := by decide +kernel
theorem dX5_turnRound_37 : decode cX5_turnRound 37 = .ok (.aload_n 0, 1) := by decide +kernel
theorem dX5_turnRound_38 : decode cX5_turnRound 38 = .ok (.getfield 21, 3) := by decide +kernel
theorem dX5_turnRound_41 : decode cX5_turnRound 41 = .ok (.iload_n 2, 1) := by decide +kernel
theorem dX5_turnRound_42 : decode cX5_turnRound 42 = .ok (.iload_n 3, 1) := by decide +kernel
theorem dX5_turnRound_43 : decode cX5_turnRound 43 = .ok (.iastore, 1) := by decide +kernel
theorem dX5_turnRound_44 : decode cX5_turnRound 44 = .ok (.iinc 2 1, 3) := by decide +kernel
theorem dX5_turnRound_47 : decode cX5_turnRound 47 = .ok (.goto (-43), 3) := by decide +kernel
theorem dX5_turnRound_50 : decode cX5_turnRound 50 = .ok (.iconst 0, 1) := by decide +kernel
theorem dX5_turnRound_51 : decode cX5_turnRound 51 = .ok (.istore_n 2, 1) := by decide +kernel
theorem dX5_turnRound_52 : decode cX5_turnRound 52 = .ok (.iload_n 2, 1) := by decide +kernel
theorem dX5_turnRound_53 : decode cX5_turnRound 53 = .ok (.aload_n 0, 1) := by decide +kernel
theorem dX5_turnRound_54 : decode cX5_turnRound 54 = .ok (.getfield 18, 3) := by decide +kernel
theorem dX5_turnRound_57 : decode cX5_turnRound 57 = .ok (.if_icmp .ge 37, 3) := by decide +kernel
theorem dX5_turnRound_60 : decode cX5_turnRound 60 = .ok (.aload_n 0, 1) := by decide +kernel
theorem dX5_turnRound_61 : decode cX5_turnRound 61 = .ok (.getfield 38, 3) := by decide +kernel
theorem dX5_turnRound_64 : decode cX5_turnRound 64 = .ok (.iload_n 2, 1) := by decide +kernel
theorem dX5_turnRound_65 : decode cX5_turnRound 65 = .ok (.iconst 1, 1) := by decide +kernel
theorem dX5_turnRound_66 : decode cX5_turnRound 66 = .ok (.aload_n 0, 1) := by decide +kernel
theorem dX5_turnRound_67 : decode cX5_turnRound 67 = .ok (.getfield 38, 3) := by decide +kernel
theorem dX5_turnRound_70 : decode cX5_turnRound 70 = .ok (.iload_n 2, 1) := by decide +kernel
theorem dX5_turnRound_71 : decode cX5_turnRound 71 = .ok (.iaload, 1) := by decide +kernel
theorem dX5_turnRound_72 : decode cX5_turnRound 72 = .ok (.isub, 1) := by decide +kernel
theorem dX5_turnRound_73 : decode cX5_turnRound 73 = .ok (.iastore, 1) := by decide +kernel
theorem dX5_turnRound_74 : decode cX5_turnRound 74 = .ok (.aload_n 0, 1) := by decide +kernel
theorem dX5_turnRound_75 : decode cX5_turnRound 75 = .ok (.getfield 44, 3) := by decide +kernel
theorem dX5_turnRound_78 : decode cX5_turnRound 78 = .ok (.iload_n 2, 1) := by decide +kernel
theorem dX5_turnRound_79 : decode cX5_turnRound 79 = .ok (.iconst 1, 1) := by decide +kernel
theorem dX5_turnRound_80 : decode cX5_turnRound 80 = .ok (.aload_n 0, 1) := by decide +kernel
theorem dX5_turnRound_81 : decode cX5_turnRound 81 = .ok (.getfield 44, 3) := by decide +kernel
theorem dX5_turnRound_84 : decode cX5_turnRound 84 = .ok (.iload_n 2, 1) := by decide +kernel
theorem dX5_turnRound_85 : decode cX5_turnRound 85 = .ok (.iaload, 1) := by decide +kernel
theorem dX5_turnRound_86 : decode cX5_turnRound 86 = .ok (.isub, 1) := by decide +kernel
theorem dX5_turnRound_87 : decode cX5_turnRound 87 = .ok (.iastore, 1) := by decide +kernel
theorem dX5_turnRound_88 : decode cX5_turnRound 88 = .ok (.iinc 2 1, 3) := by decide +kernel
theorem dX5_turnRound_91 : decode cX5_turnRound 91 = .ok (.goto (-39), 3) := by decide +kernel
theorem dX5_turnRound_94 : decode cX5_turnRound 94 = .ok (.iload_n 1, 1) := by decide +kernel
theorem dX5_turnRound_95 : decode cX5_turnRound 95 = .ok (.ireturn, 1) := by decide +kernel
theorem dX5_hindrance_0 : decode cX5_hindrance 0 = .ok (.iconst 0, 1) := by decide +kernel
theorem dX5_hindrance_1 : decode cX5_hindrance 1 = .ok (.istore_n 3, 1) := by decide +kernel
theorem dX5_hindrance_2 : decode cX5_hindrance 2 = .ok (.iload_n 3, 1) := by decide +kernel
theorem dX5_hindrance_3 : decode cX5_hindrance 3 = .ok (.aload_n 0, 1) := by decide +kernel
theorem dX5_hindrance_4 : decode cX5_hindrance 4 = .ok (.getfield 15, 3) := by decide +kernel
theorem dX5_hindrance_7 : decode cX5_hindrance 7 = .ok (.if_icmp .ge 32, 3) := by decide +kernel
theorem dX5_hindrance_10 : decode cX5_hindrance 10 = .ok (.aload_n 0, 1) := by decide +kernel
theorem dX5_hindrance_11 : decode cX5_hindrance 11 = .ok (.getfield 31, 3) := by decide +kernel
theorem dX5_hindrance_14 : decode cX5_hindrance 14 = .ok (.iload_n 3, 1) := by decide +kernel
theorem dX5_hindrance_15 : decode cX5_hindrance 15 = .ok (.baload, 1) := by decide +kernel
theorem dX5_hindrance_16 : decode cX5_hindrance 16 = .ok (.ifCond .eq 17, 3) := by decide +kernel
theorem dX5_hindrance_19 : decode cX5_hindrance 19 = .ok (.aload_n 0, 1) := by decide +kernel
theorem dX5_hindrance_20 : decode cX5_hindrance 20 = .ok (.iload_n 3, 1) := by decide +kernel
theorem dX5_hindrance_21 : decode cX5_hindrance 21 = .ok (.iload_n 1, 1) := by decide +kernel
theorem dX5_hindrance_22 : decode cX5_hindrance 22 = .ok (.invokevirtual 51, 3) := by decide +kernel
theorem dX5_hindrance_25 : decode cX5_hindrance 25 = .ok (.ifCond .eq 8, 3) := by decide +kernel
theorem dX5_hindrance_28 : decode cX5_hindrance 28 = .ok (.bipush 100, 2) := by decide +kernel
theorem dX5_hindrance_30 : decode cX5_hindrance 30 = .ok (.iload_n 3, 1) := by decide +kernel
theorem dX5_hindrance_31 : decode cX5_hindrance 31 = .ok (.iadd, 1) := by decide +kernel
theorem dX5_hindrance_32 : decode cX5_hindrance 32 = .ok (.ireturn, 1) := by decide +kernel
theorem dX5_hindrance_33 : decode cX5_hindrance 33 = .ok (.iinc 3 1, 3) := by decide +kernel
theorem dX5_hindrance_36 : decode cX5_hindrance 36 = .ok (.goto (-34), 3) := by decide +kernel
theorem dX5_hindrance_39 : decode cX5_hindrance 39 = .ok (.iconst 0, 1) := by decide +kernel
theorem dX5_hindrance_40 : decode cX5_hindrance 40 = .ok (.istore_n 3, 1) := by decide +kernel
theorem dX5_hindrance_41 : decode cX5_hindrance 41 = .ok (.iload_n 3, 1) := by decide +kernel
theorem dX5_hindrance_42 : decode cX5_hindrance 42 = .ok (.aload_n 0, 1) := by decide +kernel
theorem dX5_hindrance_43 : decode cX5_hindrance 43 = .ok (.getfield 18, 3) := by decide +kernel
theorem dX5_hindrance_46 : decode cX5_hindrance 46 = .ok (.if_icmp .ge 33, 3) := by decide +kernel
theorem dX5_hindrance_49 : decode cX5_hindrance 49 = .ok (.aload_n 0, 1) := by decide +kernel
theorem dX5_hindrance_50 : decode cX5_hindrance 50 = .ok (.iload_n 3, 1) := by decide +kernel
theorem dX5_hindrance_51 : decode cX5_hindrance 51 = .ok (.invokevirtual 55, 3) := by decide +kernel
theorem dX5_hindrance_54 : decode cX5_hindrance 54 = .ok (.ifCond .eq 19, 3) := by decide +kernel
theorem dX5_hindrance_57 : decode cX5_hindrance 57 = .ok (.aload_n 0, 1) := by decide +kernel
theorem dX5_hindrance_58 : decode cX5_hindrance 58 = .ok (.iload_n 3, 1) := by decide +kernel
theorem dX5_hindrance_59 : decode cX5_hindrance 59 = .ok (.iload_n 1, 1) := by decide +kernel
theorem dX5_hindrance_60 : decode cX5_hindrance 60 = .ok (.iload_n 2, 1) := by decide +kernel
theorem dX5_hindrance_61 : decode cX5_hindrance 61 = .ok (.invokevirtual 59, 3) := by decide +kernel
theorem dX5_hindrance_64 : decode cX5_hindrance 64 = .ok (.ifCond .ne 9, 3) := by decide +kernel
theorem dX5_hindrance_67 : decode cX5_hindrance 67 = .ok (.sipush 200, 3) := by decide +kernel
theorem dX5_hindrance_70 : decode cX5_hindrance 70 = .ok (.iload_n 3, 1) := by decide +kernel
theorem dX5_hindrance_71 : decode cX5_hindrance 71 = .ok (.iadd, 1) := by decide +kernel
theorem dX5_hindrance_72 : decode cX5_hindrance 72 = .ok (.ireturn, 1) := by decide +kernel
theorem dX5_hindrance_73 : decode cX5_hindrance 73 = .ok (.iinc 3 1, 3) := by decide +kernel
theorem dX5_hindrance_76 : decode cX5_hindrance 76 = .ok (.goto (-35), 3) := by decide +kernel
theorem dX5_hindrance_79 : decode cX5_hindrance 79 = .ok (.aload_n 0, 1) := by decide +kernel
theorem dX5_hindrance_80 : decode cX5_hindrance 80 = .ok (.iload_n 1, 1) := by decide +kernel
theorem dX5_hindrance_81 : decode cX5_hindrance 81 = .ok (.iload_n 2, 1) := by decide +kernel
theorem dX5_hindrance_82 : decode cX5_hindrance 82 = .ok (.invokevirtual 63, 3) := by decide +kernel
theorem dX5_hindrance_85 : decode cX5_hindrance 85 = .ok (.ifCond .eq 9, 3) := by decide +kernel
theorem dX5_hindrance_88 : decode cX5_hindrance 88 = .ok (.sipush 300, 3) := by decide +kernel
theorem dX5_hindrance_91 : decode cX5_hindrance 91 = .ok (.goto 4, 3) := by decide +kernel
theorem dX5_hindrance_94 : decode cX5_hindrance 94 = .ok (.iconst 0, 1) := by decide +kernel
theorem dX5_hindrance_95 : decode cX5_hindrance 95 = .ok (.ireturn, 1) := by decide +kernel
theorem dX5_pullApart_0 : decode cX5_pullApart 0 = .ok (.iconst 0, 1) := by decide +kernel
theorem dX5_pullApart_1 : decode cX5_pullApart 1 = .ok (.istore_n 3, 1) := by decide +kernel
theorem dX5_pullApart_2 : decode cX5_pullApart 2 = .ok (.iconst 0, 1) := by decide +kernel
theorem dX5_pullApart_3 : decode cX5_pullApart 3 = .ok (.istore 4, 2) := by decide +kernel
theorem dX5_pullApart_5 : decode cX5_pullApart 5 = .ok (.iload 4, 2) := by decide +kernel
theorem dX5_pullApart_7 : decode cX5_pullApart 7 = .ok (.aload_n 0, 1) := by decide +kernel
theorem dX5_pullApart_8 : decode cX5_pullApart 8 = .ok (.getfield 15, 3) := by decide +kernel
theorem dX5_pullApart_11 : decode cX5_pullApart 11 = .ok (.if_icmp .ge 58, 3) := by decide +kernel
theorem dX5_pullApart_14 : decode cX5_pullApart 14 = .ok (.aload_n 0, 1) := by decide +kernel
theorem dX5_pullApart_15 : decode cX5_pullApart 15 = .ok (.iload 4, 2) := by decide +kernel
theorem dX5_pullApart_17 : decode cX5_pullApart 17 = .ok (.iload_n 1, 1) := by decide +kernel
theorem dX5_pullApart_18 : decode cX5_pullApart 18 = .ok (.invokevirtual 51, 3) := by decide +kernel
theorem dX5_pullApart_21 : decode cX5_pullApart 21 = .ok (.ifCond .eq 20, 3) := by decide +kernel
theorem dX5_pullApart_24 : decode cX5_pullApart 24 = .ok (.aload_n 0, 1) := by decide +kernel
theorem dX5_pullApart_25 : decode cX5_pullApart 25 = .ok (.getfield 25, 3) := by decide +kernel
theorem dX5_pullApart_28 : decode cX5_pullApart 28 = .ok (.iload 4, 2) := by decide +kernel
theorem dX5_pullApart_30 : decode cX5_pullApart 30 = .ok (.dup2, 1) := by decide +kernel
theorem dX5_pullApart_31 : decode cX5_pullApart 31 = .ok (.iaload, 1) := by decide +kernel
theorem dX5_pullApart_32 : decode cX5_pullApart 32 = .ok (.iload_n 2, 1) := by decide +kernel
theorem dX5_pullApart_33 : decode cX5_pullApart 33 = .ok (.iadd, 1) := by decide +kernel
theorem dX5_pullApart_34 : decode cX5_pullApart 34 = .ok (.iastore, 1) := by decide +kernel
theorem dX5_pullApart_35 : decode cX5_pullApart 35 = .ok (.iinc 3 1, 3) := by decide +kernel
theorem dX5_pullApart_38 : decode cX5_pullApart 38 = .ok (.goto 25, 3) := by decide +kernel
theorem dX5_pullApart_41 : decode cX5_pullApart 41 = .ok (.aload_n 0, 1) := by decide +kernel
theorem dX5_pullApart_42 : decode cX5_pullApart 42 = .ok (.getfield 21, 3) := by decide +kernel
theorem dX5_pullApart_45 : decode cX5_pullApart 45 = .ok (.iload 4, 2) := by decide +kernel
theorem dX5_pullApart_47 : decode cX5_pullApart 47 = .ok (.iaload, 1) := by decide +kernel
theorem dX5_pullApart_48 : decode cX5_pullApart 48 = .ok (.iload_n 1, 1) := by decide +kernel
theorem dX5_pullApart_49 : decode cX5_pullApart 49 = .ok (.if_icmp .lt 14, 3) := by decide +kernel
theorem dX5_pullApart_52 : decode cX5_pullApart 52 = .ok (.aload_n 0, 1) := by decide +kernel
theorem dX5_pullApart_53 : decode cX5_pullApart 53 = .ok (.getfield 21, 3) := by decide +kernel
theorem dX5_pullApart_56 : decode cX5_pullApart 56 = .ok (.iload 4, 2) := by decide +kernel
theorem dX5_pullApart_58 : decode cX5_pullApart 58 = .ok (.dup2, 1) := by decide +kernel
theorem dX5_pullApart_59 : decode cX5_pullApart 59 = .ok (.iaload, 1) := by decide +kernel
theorem dX5_pullApart_60 : decode cX5_pullApart 60 = .ok (.iload_n 2, 1) := by decide +kernel
theorem dX5_pullApart_61 : decode cX5_pullApart 61 = .ok (.iadd, 1) := by decide +kernel
theorem dX5_pullApart_62 : decode cX5_pullApart 62 = .ok (.iastore, 1) := by decide +kernel
theorem dX5_pullApart_63 : decode cX5_pullApart 63 = .ok (.iinc 4 1, 3) := by decide +kernel
theorem dX5_pullApart_66 : decode cX5_pullApart 66 = .ok (.goto (-61), 3) := by decide +kernel
theorem dX5_pullApart_69 : decode cX5_pullApart 69 = .ok (.iload_n 1, 1) := by decide +kernel
theorem dX5_pullApart_70 : decode cX5_pullApart 70 = .ok (.aload_n 0, 1) := by decide +kernel
theorem dX5_pullApart_71 : decode cX5_pullApart 71 = .ok (.getfield 9, 3) := by decide +kernel
theorem dX5_pullApart_74 : decode cX5_pullApart 74 = .ok (.if_icmp .gt 13, 3) := by decide +kernel
theorem dX5_pullApart_77 : decode cX5_pullApart 77 = .ok (.aload_n 0, 1) := by decide +kernel
theorem dX5_pullApart_78 : decode cX5_pullApart 78 = .ok (.dup, 1) := by decide +kernel
theorem dX5_pullApart_79 : decode cX5_pullApart 79 = .ok (.getfield 9, 3) := by decide +kernel
theorem dX5_pullApart_82 : decode cX5_pullApart 82 = .ok (.iload_n 2, 1) := by decide +kernel
theorem dX5_pullApart_83 : decode cX5_pullApart 83 = .ok (.iadd, 1) := by decide +kernel
theorem dX5_pullApart_84 : decode cX5_pullApart 84 = .ok (.putfield 9, 3) := by decide +kernel
theorem dX5_pullApart_87 : decode cX5_pullApart 87 = .ok (.iload_n 3, 1) := by decide +kernel
theorem dX5_pullApart_88 : decode cX5_pullApart 88 = .ok (.ireturn, 1) := by decide +kernel
theorem dX5_endOf_0 : decode cX5_endOf 0 = .ok (.iload_n 2, 1) := by decide +kernel
theorem dX5_endOf_1 : decode cX5_endOf 1 = .ok (.ifCond .ne 12, 3) := by decide +kernel
theorem dX5_endOf_4 : decode cX5_endOf 4 = .ok (.aload_n 0, 1) := by decide +kernel
theorem dX5_endOf_5 : decode cX5_endOf 5 = .ok (.getfield 21, 3) := by decide +kernel
theorem dX5_endOf_8 : decode cX5_endOf 8 = .ok (.iload_n 1, 1) := by decide +kernel
theorem dX5_endOf_9 : decode cX5_endOf 9 = .ok (.iaload, 1) := by decide +kernel
theorem dX5_endOf_10 : decode cX5_endOf 10 = .ok (.goto 16, 3) := by decide +kernel
theorem dX5_endOf_13 : decode cX5_endOf 13 = .ok (.aload_n 0, 1) := by decide +kernel
theorem dX5_endOf_14 : decode cX5_endOf 14 = .ok (.getfield 21, 3) := by decide +kernel
theorem dX5_endOf_17 : decode cX5_endOf 17 = .ok (.iload_n 1, 1) := by decide +kernel
theorem dX5_endOf_18 : decode cX5_endOf 18 = .ok (.iaload, 1) := by decide +kernel
theorem dX5_endOf_19 : decode cX5_endOf 19 = .ok (.aload_n 0, 1) := by decide +kernel
theorem dX5_endOf_20 : decode cX5_endOf 20 = .ok (.getfield 25, 3) := by decide +kernel
theorem dX5_endOf_23 : decode cX5_endOf 23 = .ok (.iload_n 1, 1) := by decide +kernel
theorem dX5_endOf_24 : decode cX5_endOf 24 = .ok (.iaload, 1) := by decide +kernel
theorem dX5_endOf_25 : decode cX5_endOf 25 = .ok (.iadd, 1) := by decide +kernel
theorem dX5_endOf_26 : decode cX5_endOf 26 = .ok (.ireturn, 1) := by decide +kernel
theorem dX5_isAcross_0 : decode cX5_isAcross 0 = .ok (.aload_n 0, 1) := by decide +kernel
theorem dX5_isAcross_1 : decode cX5_isAcross 1 = .ok (.getfield 21, 3) := by decide +kernel
theorem dX5_isAcross_4 : decode cX5_isAcross 4 = .ok (.iload_n 1, 1) := by decide +kernel
theorem dX5_isAcross_5 : decode cX5_isAcross 5 = .ok (.iaload, 1) := by decide +kernel
theorem dX5_isAcross_6 : decode cX5_isAcross 6 = .ok (.iload_n 2, 1) := by decide +kernel
theorem dX5_isAcross_7 : decode cX5_isAcross 7 = .ok (.if_icmp .ge 17, 3) := by decide +kernel
theorem dX5_isAcross_10 : decode cX5_isAcross 10 = .ok (.aload_n 0, 1) := by decide +kernel
theorem dX5_isAcross_11 : decode cX5_isAcross 11 = .ok (.iload_n 1, 1) := by decide +kernel
theorem dX5_isAcross_12 : decode cX5_isAcross 12 = .ok (.iconst 1, 1) := by decide +kernel
theorem dX5_isAcross_13 : decode cX5_isAcross 13 = .ok (.invokevirtual 47, 3) := by decide +kernel
theorem dX5_isAcross_16 : decode cX5_isAcross 16 = .ok (.iload_n 2, 1) := by decide +kernel
theorem dX5_isAcross_17 : decode cX5_isAcross 17 = .ok (.if_icmp .le 7, 3) := by decide +kernel
theorem dX5_isAcross_20 : decode cX5_isAcross 20 = .ok (.iconst 1, 1) := by decide +kernel
theorem dX5_isAcross_21 : decode cX5_isAcross 21 = .ok (.goto 4, 3) := by decide +kernel
theorem dX5_isAcross_24 : decode cX5_isAcross 24 = .ok (.iconst 0, 1) := by decide +kernel
theorem dX5_isAcross_25 : decode cX5_isAcross 25 = .ok (.ireturn, 1) := by decide +kernel
theorem dX5_wouldHold_0 : decode cX5_wouldHold 0 = .ok (.aload_n 0, 1) := by decide +kernel
theorem dX5_wouldHold_1 : decode cX5_wouldHold 1 = .ok (.aload_n 0, 1) := by decide +kernel
theorem dX5_wouldHold_2 : decode cX5_wouldHold 2 = .ok (.getfield 35, 3) := by decide +kernel
theorem dX5_wouldHold_5 : decode cX5_wouldHold 5 = .ok (.iload_n 1, 1) := by decide +kernel
theorem dX5_wouldHold_6 : decode cX5_wouldHold 6 = .ok (.iaload, 1) := by decide +kernel
theorem dX5_wouldHold_7 : decode cX5_wouldHold 7 = .ok (.aload_n 0, 1) := by decide +kernel
theorem dX5_wouldHold_8 : decode cX5_wouldHold 8 = .ok (.getfield 38, 3) := by decide +kernel
theorem dX5_wouldHold_11 : decode cX5_wouldHold 11 = .ok (.iload_n 1, 1) := by decide +kernel
theorem dX5_wouldHold_12 : decode cX5_wouldHold 12 = .ok (.iaload, 1) := by decide +kernel
theorem dX5_wouldHold_13 : decode cX5_wouldHold 13 = .ok (.iload_n 2, 1) := by decide +kernel
theorem dX5_wouldHold_14 : decode cX5_wouldHold 14 = .ok (.iload_n 3, 1) := by decide +kernel
theorem dX5_wouldHold_15 : decode cX5_wouldHold 15 = .ok (.invokevirtual 66, 3) := by decide +kernel
theorem dX5_wouldHold_18 : decode cX5_wouldHold 18 = .ok (.aload_n 0, 1) := by decide +kernel
theorem dX5_wouldHold_19 : decode cX5_wouldHold 19 = .ok (.aload_n 0, 1) := by decide +kernel
theorem dX5_wouldHold_20 : decode cX5_wouldHold 20 = .ok (.getfield 41, 3) := by decide +kernel
theorem dX5_wouldHold_23 : decode cX5_wouldHold 23 = .ok (.iload_n 1, 1) := by decide +kernel
theorem dX5_wouldHold_24 : decode cX5_wouldHold 24 = .ok (.iaload, 1) := by decide +kernel
theorem dX5_wouldHold_25 : decode cX5_wouldHold 25 = .ok (.aload_n 0, 1) := by decide +kernel
theorem dX5_wouldHold_26 : decode cX5_wouldHold 26 = .ok (.getfield 44, 3) := by decide +kernel
theorem dX5_wouldHold_29 : decode cX5_wouldHold 29 = .ok (.iload_n 1, 1) := by decide +kernel
theorem dX5_wouldHold_30 : decode cX5_wouldHold 30 = .ok (.iaload, 1) := by decide +kernel
theorem dX5_wouldHold_31 : decode cX5_wouldHold 31 = .ok (.iload_n 2, 1) := by decide +kernel
theorem dX5_wouldHold_32 : decode cX5_wouldHold 32 = .ok (.iload_n 3, 1) := by decide +kernel
theorem dX5_wouldHold_33 : decode cX5_wouldHold 33 = .ok (.invokevirtual 66, 3) := by decide +kernel
theorem dX5_wouldHold_36 : decode cX5_wouldHold 36 = .ok (.if_icmp .ne 7, 3) := by decide +kernel
theorem dX5_wouldHold_39 : decode cX5_wouldHold 39 = .ok (.iconst 1, 1) := by decide +kernel
theorem dX5_wouldHold_40 : decode cX5_wouldHold 40 = .ok (.goto 4, 3) := by decide +kernel
theorem dX5_wouldHold_43 : decode cX5_wouldHold 43 = .ok (.iconst 0, 1) := by decide +kernel
theorem dX5_wouldHold_44 : decode cX5_wouldHold 44 = .ok (.ireturn, 1) := by decide +kernel
theorem dX5_endAfter_0 : decode cX5_endAfter 0 = .ok (.aload_n 0, 1) := by decide +kernel
theorem dX5_endAfter_1 : decode cX5_endAfter 1 = .ok (.iload_n 1, 1) := by decide +kernel
theorem dX5_endAfter_2 : decode cX5_endAfter 2 = .ok (.iload_n 2, 1) := by decide +kernel
theorem dX5_endAfter_3 : decode cX5_endAfter 3 = .ok (.invokevirtual 47, 3) := by decide +kernel
theorem dX5_endAfter_6 : decode cX5_endAfter 6 = .ok (.istore 5, 2) := by decide +kernel
theorem dX5_endAfter_8 : decode cX5_endAfter 8 = .ok (.iload_n 2, 1) := by decide +kernel
theorem dX5_endAfter_9 : decode cX5_endAfter 9 = .ok (.ifCond .ne 17, 3) := by decide +kernel
theorem dX5_endAfter_12 : decode cX5_endAfter 12 = .ok (.iload 5, 2) := by decide +kernel
theorem dX5_endAfter_14 : decode cX5_endAfter 14 = .ok (.iload_n 3, 1) := by decide +kernel
theorem dX5_endAfter_15 : decode cX5_endAfter 15 = .ok (.if_icmp .lt 7, 3) := by decide +kernel
theorem dX5_endAfter_18 : decode cX5_endAfter 18 = .ok (.iconst 1, 1) := by decide +kernel
theorem dX5_endAfter_19 : decode cX5_endAfter 19 = .ok (.goto 18, 3) := by decide +kernel
theorem dX5_endAfter_22 : decode cX5_endAfter 22 = .ok (.iconst 0, 1) := by decide +kernel
theorem dX5_endAfter_23 : decode cX5_endAfter 23 = .ok (.goto 14, 3) := by decide +kernel
theorem dX5_endAfter_26 : decode cX5_endAfter 26 = .ok (.iload 5, 2) := by decide +kernel
theorem dX5_endAfter_28 : decode cX5_endAfter 28 = .ok (.iload_n 3, 1) := by decide +kernel
theorem dX5_endAfter_29 : decode cX5_endAfter 29 = .ok (.if_icmp .le 7, 3) := by decide +kernel
theorem dX5_endAfter_32 : decode cX5_endAfter 32 = .ok (.iconst 1, 1) := by decide +kernel
theorem dX5_endAfter_33 : decode cX5_endAfter 33 = .ok (.goto 4, 3) := by decide +kernel
theorem dX5_endAfter_36 : decode cX5_endAfter 36 = .ok (.iconst 0, 1) := by decide +kernel
theorem dX5_endAfter_37 : decode cX5_endAfter 37 = .ok (.istore 6, 2) := by decide +kernel
theorem dX5_endAfter_39 : decode cX5_endAfter 39 = .ok (.iload 6, 2) := by decide +kernel
theorem dX5_endAfter_41 : decode cX5_endAfter 41 = .ok (.ifCond .eq 11, 3) := by decide +kernel
theorem dX5_endAfter_44 : decode cX5_endAfter 44 = .ok (.iload 5, 2) := by decide +kernel
theorem dX5_endAfter_46 : decode cX5_endAfter 46 = .ok (.iload 4, 2) := by decide +kernel
theorem dX5_endAfter_48 : decode cX5_endAfter 48 = .ok (.iadd, 1) := by decide +kernel
theorem dX5_endAfter_49 : decode cX5_endAfter 49 = .ok (.goto 5, 3) := by decide +kernel
theorem dX5_endAfter_52 : decode cX5_endAfter 52 = .ok (.iload 5, 2) := by decide +kernel
theorem dX5_endAfter_54 : decode cX5_endAfter 54 = .ok (.ireturn, 1) := by decide +kernel
theorem dX5_wouldBeTooMuch_0 : decode cX5_wouldBeTooMuch 0 = .ok (.iconst 0, 1) := by decide +kernel
theorem dX5_wouldBeTooMuch_1 : decode cX5_wouldBeTooMuch 1 = .ok (.istore_n 3, 1) := by decide +kernel
theorem dX5_wouldBeTooMuch_2 : decode cX5_wouldBeTooMuch 2 = .ok (.iload_n 3, 1) := by decide +kernel
theorem dX5_wouldBeTooMuch_3 : decode cX5_wouldBeTooMuch 3 = .ok (.aload_n 0, 1) := by decide +kernel
theorem dX5_wouldBeTooMuch_4 : decode cX5_wouldBeTooMuch 4 = .ok (.getfield 15, 3) := by decide +kernel
theorem dX5_wouldBeTooMuch_7 : decode cX5_wouldBeTooMuch 7 = .ok (.if_icmp .ge 50, 3) := by decide +kernel
theorem dX5_wouldBeTooMuch_10 : decode cX5_wouldBeTooMuch 10 = .ok (.aload_n 0, 1) := by decide +kernel
theorem dX5_wouldBeTooMuch_11 : decode cX5_wouldBeTooMuch 11 = .ok (.iload_n 3, 1) := by decide +kernel
theorem dX5_wouldBeTooMuch_12 : decode cX5_wouldBeTooMuch 12 = .ok (.iload_n 1, 1) := by decide +kernel
theorem dX5_wouldBeTooMuch_13 : decode cX5_wouldBeTooMuch 13 = .ok (.invokevirtual 51, 3) := by decide +kernel
theorem dX5_wouldBeTooMuch_16 : decode cX5_wouldBeTooMuch 16 = .ok (.ifCond .eq 19, 3) := by decide +kernel
theorem dX5_wouldBeTooMuch_19 : decode cX5_wouldBeTooMuch 19 = .ok (.aload_n 0, 1) := by decide +kernel
theorem dX5_wouldBeTooMuch_20 : decode cX5_wouldBeTooMuch 20 = .ok (.getfield 25, 3) := by decide +kernel
theorem dX5_wouldBeTooMuch_23 : decode cX5_wouldBeTooMuch 23 = .ok (.iload_n 3, 1) := by decide +kernel
theorem dX5_wouldBeTooMuch_24 : decode cX5_wouldBeTooMuch 24 = .ok (.iaload, 1) := by decide +kernel
theorem dX5_wouldBeTooMuch_25 : decode cX5_wouldBeTooMuch 25 = .ok (.iload_n 2, 1) := by decide +kernel
theorem dX5_wouldBeTooMuch_26 : decode cX5_wouldBeTooMuch 26 = .ok (.iadd, 1) := by decide +kernel
theorem dX5_wouldBeTooMuch_27 : decode cX5_wouldBeTooMuch 27 = .ok (.sipush 200, 3) := by decide +kernel
theorem dX5_wouldBeTooMuch_30 : decode cX5_wouldBeTooMuch 30 = .ok (.if_icmp .le 5, 3) := by decide +kernel
theorem dX5_wouldBeTooMuch_33 : decode cX5_wouldBeTooMuch 33 = .ok (.iconst 1, 1) := by decide +kernel
theorem dX5_wouldBeTooMuch_34 : decode cX5_wouldBeTooMuch 34 = .ok (.ireturn, 1) := by decide +kernel
theorem dX5_wouldBeTooMuch_35 : decode cX5_wouldBeTooMuch 35 = .ok (.aload_n 0, 1) := by decide +kernel
theorem dX5_wouldBeTooMuch_36 : decode cX5_wouldBeTooMuch 36 = .ok (.iload_n 3, 1) := by decide +kernel
theorem dX5_wouldBeTooMuch_37 : decode cX5_wouldBeTooMuch 37 = .ok (.iconst 0, 1) := by decide +kernel
theorem dX5_wouldBeTooMuch_38 : decode cX5_wouldBeTooMuch 38 = .ok (.iload_n 1, 1) := by decide +kernel
theorem dX5_wouldBeTooMuch_39 : decode cX5_wouldBeTooMuch 39 = .ok (.iload_n 2, 1) := by decide +kernel
theorem dX5_wouldBeTooMuch_40 : decode cX5_wouldBeTooMuch 40 = .ok (.invokevirtual 66, 3) := by decide +kernel
theorem dX5_wouldBeTooMuch_43 : decode cX5_wouldBeTooMuch 43 = .ok (.sipush 400, 3) := by decide +kernel
theorem dX5_wouldBeTooMuch_46 : decode cX5_wouldBeTooMuch 46 = .ok (.if_icmp .le 5, 3) := by decide +kernel
theorem dX5_wouldBeTooMuch_49 : decode cX5_wouldBeTooMuch 49 = .ok (.iconst 1, 1) := by decide +kernel
theorem dX5_wouldBeTooMuch_50 : decode cX5_wouldBeTooMuch 50 = .ok (.ireturn, 1) := by decide +kernel
theorem dX5_wouldBeTooMuch_51 : decode cX5_wouldBeTooMuch 51 = .ok (.iinc 3 1, 3) := by decide +kernel
theorem dX5_wouldBeTooMuch_54 : decode cX5_wouldBeTooMuch 54 = .ok (.goto (-52), 3) := by decide +kernel
theorem dX5_wouldBeTooMuch_57 : decode cX5_wouldBeTooMuch 57 = .ok (.iload_n 1, 1) := by decide +kernel
theorem dX5_wouldBeTooMuch_58 : decode cX5_wouldBeTooMuch 58 = .ok (.aload_n 0, 1) := by decide +kernel
theorem dX5_wouldBeTooMuch_59 : decode cX5_wouldBeTooMuch 59 = .ok (.getfield 9, 3) := by decide +kernel
theorem dX5_wouldBeTooMuch_62 : decode cX5_wouldBeTooMuch 62 = .ok (.if_icmp .gt 19, 3) := by decide +kernel
theorem dX5_wouldBeTooMuch_65 : decode cX5_wouldBeTooMuch 65 = .ok (.aload_n 0, 1) := by decide +kernel
theorem dX5_wouldBeTooMuch_66 : decode cX5_wouldBeTooMuch 66 = .ok (.getfield 9, 3) := by decide +kernel
theorem dX5_wouldBeTooMuch_69 : decode cX5_wouldBeTooMuch 69 = .ok (.iload_n 2, 1) := by decide +kernel
theorem dX5_wouldBeTooMuch_70 : decode cX5_wouldBeTooMuch 70 = .ok (.iadd, 1) := by decide +kernel
theorem dX5_wouldBeTooMuch_71 : decode cX5_wouldBeTooMuch 71 = .ok (.sipush 400, 3) := by decide +kernel
theorem dX5_wouldBeTooMuch_74 : decode cX5_wouldBeTooMuch 74 = .ok (.if_icmp .le 7, 3) := by decide +kernel
theorem dX5_wouldBeTooMuch_77 : decode cX5_wouldBeTooMuch 77 = .ok (.iconst 1, 1) := by decide +kernel
theorem dX5_wouldBeTooMuch_78 : decode cX5_wouldBeTooMuch 78 = .ok (.goto 4, 3) := by decide +kernel
theorem dX5_wouldBeTooMuch_81 : decode cX5_wouldBeTooMuch 81 = .ok (.iconst 0, 1) := by decide +kernel
theorem dX5_wouldBeTooMuch_82 : decode cX5_wouldBeTooMuch 82 = .ok (.ireturn, 1) := by decide +kernel
theorem dX6_init_0 : decode cX6_init 0 = .ok (.aload_n 0, 1) := by decide +kernel
theorem dX6_init_1 : decode cX6_init 1 = .ok (.invokespecial 3, 3) := by decide +kernel
theorem dX6_init_4 : decode cX6_init 4 = .ok (.aload_n 0, 1) := by decide +kernel
theorem dX6_init_5 : decode cX6_init 5 = .ok (.iconst 0, 1) := by decide +kernel
theorem dX6_init_6 : decode cX6_init 6 = .ok (.putfield 9, 3) := by decide +kernel
theorem dX6_init_9 : decode cX6_init 9 = .ok (.aload_n 0, 1) := by decide +kernel
theorem dX6_init_10 : decode cX6_init 10 = .ok (.bipush 50, 2) := by decide +kernel
theorem dX6_init_12 : decode cX6_init 12 = .ok (.putfield 15, 3) := by decide +kernel
theorem dX6_init_15 : decode cX6_init 15 = .ok (.aload_n 0, 1) := by decide +kernel
theorem dX6_init_16 : decode cX6_init 16 = .ok (.iconst 1, 1) := by decide +kernel
theorem dX6_init_17 : decode cX6_init 17 = .ok (.putfield 18, 3) := by decide +kernel
theorem dX6_init_20 : decode cX6_init 20 = .ok (.aload_n 0, 1) := by decide +kernel
theorem dX6_init_21 : decode cX6_init 21 = .ok (.iconst 0, 1) := by decide +kernel
theorem dX6_init_22 : decode cX6_init 22 = .ok (.putfield 22, 3) := by decide +kernel
theorem dX6_init_25 : decode cX6_init 25 = .ok (.aload_n 0, 1) := by decide +kernel
theorem dX6_init_26 : decode cX6_init 26 = .ok (.bipush 16, 2) := by decide +kernel
theorem dX6_init_28 : decode cX6_init 28 = .ok (.newarray .int, 2) := by decide +kernel
theorem dX6_init_30 : decode cX6_init 30 = .ok (.putfield 25, 3) := by decide +kernel
theorem dX6_init_33 : decode cX6_init 33 = .ok (.aload_n 0, 1) := by decide +kernel
theorem dX6_init_34 : decode cX6_init 34 = .ok (.lconst 0, 1) := by decide +kernel
theorem dX6_init_35 : decode cX6_init 35 = .ok (.putfield 29, 3) := by decide +kernel
theorem dX6_init_38 : decode cX6_init 38 = .ok (.aload_n 0, 1) := by decide +kernel
theorem dX6_init_39 : decode cX6_init 39 = .ok (.bipush 16, 2) := by decide +kernel
theorem dX6_init_41 : decode cX6_init 41 = .ok (.newarray .long, 2) := by decide +kernel
theorem dX6_init_43 : decode cX6_init 43 = .ok (.putfield 33, 3) := by decide +kernel
theorem dX6_init_46 : decode cX6_init 46 = .ok (.aload_n 0, 1) := by decide +kernel
theorem dX6_init_47 : decode cX6_init 47 = .ok (.bipush 16, 2) := by decide +kernel
theorem dX6_init_49 : decode cX6_init 49 = .ok (.newarray .long, 2) := by decide +kernel
theorem dX6_init_51 : decode cX6_init 51 = .ok (.putfield 37, 3) := by decide +kernel
theorem dX6_init_54 : decode cX6_init 54 = .ok (.aload_n 0, 1) := by decide +kernel
theorem dX6_init_55 : decode cX6_init 55 = .ok (.bipush 17, 2) := by decide +kernel
theorem dX6_init_57 : decode cX6_init 57 = .ok (.newarray .long, 2) := by decide +kernel
theorem dX6_init_59 : decode cX6_init 59 = .ok (.putfield 40, 3) := by decide +kernel
theorem dX6_init_62 : decode cX6_init 62 = .ok (.return_, 1) := by decide +kernel
theorem dX6_addReport_0 : decode cX6_addReport 0 = .ok (.aload_n 0, 1) := by decide +kernel
theorem dX6_addReport_1 : decode cX6_addReport 1 = .ok (.getfield 9, 3) := by decide +kernel
theorem dX6_addReport_4 : decode cX6_addReport 4 = .ok (.istore 6, 2) := by decide +kernel
theorem dX6_addReport_6 : decode cX6_addReport 6 = .ok (.lconst 1, 1) := by decide +kernel
theorem dX6_addReport_7 : decode cX6_addReport 7 = .ok (.iload 6, 2) := by decide +kernel
theorem dX6_addReport_9 : decode cX6_addReport 9 = .ok (.lshl, 1) := by decide +kernel
theorem dX6_addReport_10 : decode cX6_addReport 10 = .ok (.lstore 7, 2) := by decide +kernel
theorem dX6_addReport_12 : decode cX6_addReport 12 = .ok (.aload_n 0, 1) := by decide +kernel
theorem dX6_addReport_13 : decode cX6_addReport 13 = .ok (.getfield 33, 3) := by decide +kernel
theorem dX6_addReport_16 : decode cX6_addReport 16 = .ok (.iload_n 1, 1) := by decide +kernel
theorem dX6_addReport_17 : decode cX6_addReport 17 = .ok (.dup2, 1) := by decide +kernel
theorem dX6_addReport_18 : decode cX6_addReport 18 = .ok (.laload, 1) := by decide +kernel
theorem dX6_addReport_19 : decode cX6_addReport 19 = .ok (.lload 7, 2) := by decide +kernel
theorem dX6_addReport_21 : decode cX6_addReport 21 = .ok (.lor, 1) := by decide +kernel
theorem dX6_addReport_22 : decode cX6_addReport 22 = .ok (.lastore, 1) := by decide +kernel
theorem dX6_addReport_23 : decode cX6_addReport 23 = .ok (.aload_n 0, 1) := by decide +kernel
theorem dX6_addReport_24 : decode cX6_addReport 24 = .ok (.getfield 33, 3) := by decide +kernel
theorem dX6_addReport_27 : decode cX6_addReport 27 = .ok (.iconst 4, 1) := by decide +kernel
theorem dX6_addReport_28 : decode cX6_addReport 28 = .ok (.iload_n 2, 1) := by decide +kernel
theorem dX6_addReport_29 : decode cX6_addReport 29 = .ok (.iadd, 1) := by decide +kernel
theorem dX6_addReport_30 : decode cX6_addReport 30 = .ok (.dup2, 1) := by decide +kernel
theorem dX6_addReport_31 : decode cX6_addReport 31 = .ok (.laload, 1) := by decide +kernel
theorem dX6_addReport_32 : decode cX6_addReport 32 = .ok (.lload 7, 2) := by decide +kernel
theorem dX6_addReport_34 : decode cX6_addReport 34 = .ok (.lor, 1) := by decide +kernel
theorem dX6_addReport_35 : decode cX6_addReport 35 = .ok (.lastore, 1) := by decide +kernel
theorem dX6_addReport_36 : decode cX6_addReport 36 = .ok (.aload_n 0, 1) := by decide +kernel
theorem dX6_addReport_37 : decode cX6_addReport 37 = .ok (.getfield 33, 3) := by decide +kernel
theorem dX6_addReport_40 : decode cX6_addReport 40 = .ok (.bipush 8, 2) := by decide +kernel
theorem dX6_addReport_42 : decode cX6_addReport 42 = .ok (.iload_n 3, 1) := by decide +kernel
theorem dX6_addReport_43 : decode cX6_addReport 43 = .ok (.iadd, 1) := by decide +kernel
theorem dX6_addReport_44 : decode cX6_addReport 44 = .ok (.dup2, 1) := by decide +kernel
theorem dX6_addReport_45 : decode cX6_addReport 45 = .ok (.laload, 1) := by decide +kernel
theorem dX6_addReport_46 : decode cX6_addReport 46 = .ok (.lload 7, 2) := by decide +kernel
theorem dX6_addReport_48 : decode cX6_addReport 48 = .ok (.lor, 1) := by decide +kernel
theorem dX6_addReport_49 : decode cX6_addReport 49 = .ok (.lastore, 1) := by decide +kernel
theorem dX6_addReport_50 : decode cX6_addReport 50 = .ok (.aload_n 0, 1) := by decide +kernel
theorem dX6_addReport_51 : decode cX6_addReport 51 = .ok (.getfield 33, 3) := by decide +kernel
theorem dX6_addReport_54 : decode cX6_addReport 54 = .ok (.bipush 12, 2) := by decide +kernel
theorem dX6_addReport_56 : decode cX6_addReport 56 = .ok (.iload 4, 2) := by decide +kernel
theorem dX6_addReport_58 : decode cX6_addReport 58 = .ok (.iadd, 1) := by decide +kernel
theorem dX6_addReport_59 : decode cX6_addReport 59 = .ok (.dup2, 1) := by decide +kernel
theorem dX6_addReport_60 : decode cX6_addReport 60 = .ok (.laload, 1) := by decide +kernel
theorem dX6_addReport_61 : decode cX6_addReport 61 = .ok (.lload 7, 2) := by decide +kernel
theorem dX6_addReport_63 : decode cX6_addReport 63 = .ok (.lor, 1) := by decide +kernel
theorem dX6_addReport_64 : decode cX6_addReport 64 = .ok (.lastore, 1) := by decide +kernel
theorem dX6_addReport_65 : decode cX6_addReport 65 = .ok (.iload 5, 2) := by decide +kernel
theorem dX6_addReport_67 : decode cX6_addReport 67 = .ok (.ifCond .eq 14, 3) := by decide +kernel
theorem dX6_addReport_70 : decode cX6_addReport 70 = .ok (.aload_n 0, 1) := by decide +kernel
theorem dX6_addReport_71 : decode cX6_addReport 71 = .ok (.dup, 1) := by decide +kernel
theorem dX6_addReport_72 : decode cX6_addReport 72 = .ok (.getfield 29, 3) := by decide +kernel
theorem dX6_addReport_75 : decode cX6_addReport 75 = .ok (.lload 7, 2) := by decide +kernel
theorem dX6_addReport_77 : decode cX6_addReport 77 = .ok (.lor, 1) := by decide +kernel
theorem dX6_addReport_78 : decode cX6_addReport 78 = .ok (.putfield 29, 3) := by decide +kernel
theorem dX6_addReport_81 : decode cX6_addReport 81 = .ok (.aload_n 0, 1) := by decide +kernel
theorem dX6_addReport_82 : decode cX6_addReport 82 = .ok (.iload 6, 2) := by decide +kernel
theorem dX6_addReport_84 : decode cX6_addReport 84 = .ok (.iconst 1, 1) := by decide +kernel
theorem dX6_addReport_85 : decode cX6_addReport 85 = .ok (.iadd, 1) := by decide +kernel
theorem dX6_addReport_86 : decode cX6_addReport 86 = .ok (.putfield 9, 3) := by decide +kernel
theorem dX6_addReport_89 : decode cX6_addReport 89 = .ok (.aload_n 0, 1) := by decide +kernel
theorem dX6_addReport_90 : decode cX6_addReport 90 = .ok (.iconst 1, 1) := by decide +kernel
theorem dX6_addReport_91 : decode cX6_addReport 91 = .ok (.putfield 18, 3) := by decide +kernel
theorem dX6_addReport_94 : decode cX6_addReport 94 = .ok (.iload 6, 2) := by decide +kernel
theorem dX6_addReport_96 : decode cX6_addReport 96 = .ok (.ireturn, 1) := by decide +kernel
theorem dX6_allWith_0 : decode cX6_allWith 0 = .ok (.aload_n 0, 1) := by decide +kernel
theorem dX6_allWith_1 : decode cX6_allWith 1 = .ok (.getfield 33, 3) := by decide +kernel
theorem dX6_allWith_4 : decode cX6_allWith 4 = .ok (.iload_n 1, 1) := by decide +kernel
theorem dX6_allWith_5 : decode cX6_allWith 5 = .ok (.laload, 1) := by decide +kernel
theorem dX6_allWith_6 : decode cX6_allWith 6 = .ok (.invokestatic 43, 3) := by decide +kernel
theorem dX6_allWith_9 : decode cX6_allWith 9 = .ok (.ireturn, 1) := by decide +kernel
theorem dX6_badWith_0 : decode cX6_badWith 0 = .ok (.aload_n 0, 1) := by decide +kernel
theorem dX6_badWith_1 : decode cX6_badWith 1 = .ok (.getfield 33, 3) := by decide +kernel
theorem dX6_badWith_4 : decode cX6_badWith 4 = .ok (.iload_n 1, 1) := by decide +kernel
theorem dX6_badWith_5 : decode cX6_badWith 5 = .ok (.laload, 1) := by decide +kernel
theorem dX6_badWith_6 : decode cX6_badWith 6 = .ok (.aload_n 0, 1) := by decide +kernel
theorem dX6_badWith_7 : decode cX6_badWith 7 = .ok (.getfield 29, 3) := by decide +kernel
theorem dX6_badWith_10 : decode cX6_badWith 10 = .ok (.land, 1) := by decide +kernel
theorem dX6_badWith_11 : decode cX6_badWith 11 = .ok (.invokestatic 43, 3) := by decide +kernel
theorem dX6_badWith_14 : decode cX6_badWith 14 = .ok (.ireturn, 1) := by decide +kernel
theorem dX6_suspects_0 : decode cX6_suspects 0 = .ok (.aload_n 0, 1) := by decide +kernel
theorem dX6_suspects_1 : decode cX6_suspects 1 = .ok (.iload_n 1, 1) := by decide +kernel
theorem dX6_suspects_2 : decode cX6_suspects 2 = .ok (.invokevirtual 49, 3) := by decide +kernel
theorem dX6_suspects_5 : decode cX6_suspects 5 = .ok (.istore_n 2, 1) := by decide +kernel
theorem dX6_suspects_6 : decode cX6_suspects 6 = .ok (.iload_n 2, 1) := by decide +kernel
theorem dX6_suspects_7 : decode cX6_suspects 7 = .ok (.ifCond .le 24, 3) := by decide +kernel
theorem dX6_suspects_10 : decode cX6_suspects 10 = .ok (.iload_n 2, 1) := by decide +kernel
theorem dX6_suspects_11 : decode cX6_suspects 11 = .ok (.bipush 100, 2) := by decide +kernel
theorem dX6_suspects_13 : decode cX6_suspects 13 = .ok (.imul, 1) := by decide +kernel
theorem dX6_suspects_14 : decode cX6_suspects 14 = .ok (.aload_n 0, 1) := by decide +kernel
theorem dX6_suspects_15 : decode cX6_suspects 15 = .ok (.getfield 15, 3) := by decide +kernel
theorem dX6_suspects_18 : decode cX6_suspects 18 = .ok (.aload_n 0, 1) := by decide +kernel
theorem dX6_suspects_19 : decode cX6_suspects 19 = .ok (.iload_n 1, 1) := by decide +kernel
theorem dX6_suspects_20 : decode cX6_suspects 20 = .ok (.invokevirtual 53, 3) := by decide +kernel
theorem dX6_suspects_23 : decode cX6_suspects 23 = .ok (.imul, 1) := by decide +kernel
theorem dX6_suspects_24 : decode cX6_suspects 24 = .ok (.if_icmp .lt 7, 3) := by decide +kernel
theorem dX6_suspects_27 : decode cX6_suspects 27 = .ok (.iconst 1, 1) := by decide +kernel
theorem dX6_suspects_28 : decode cX6_suspects 28 = .ok (.goto 4, 3) := by decide +kernel
theorem dX6_suspects_31 : decode cX6_suspects 31 = .ok (.iconst 0, 1) := by decide +kernel
theorem dX6_suspects_32 : decode cX6_suspects 32 = .ok (.ireturn, 1) := by decide +kernel
theorem dX6_seekIfStale_0 : decode cX6_seekIfStale 0 = .ok (.aload_n 0, 1) := by decide +kernel
theorem dX6_seekIfStale_1 : decode cX6_seekIfStale 1 = .ok (.getfield 18, 3) := by decide +kernel
theorem dX6_seekIfStale_4 : decode cX6_seekIfStale 4 = .ok (.ifCond .eq 12, 3) := by decide +kernel
theorem dX6_seekIfStale_7 : decode cX6_seekIfStale 7 = .ok (.aload_n 0, 1) := by decide +kernel
theorem dX6_seekIfStale_8 : decode cX6_seekIfStale 8 = .ok (.invokevirtual 56, 3) := by decide +kernel
theorem dX6_seekIfStale_11 : decode cX6_seekIfStale 11 = .ok (.aload_n 0, 1) := by decide +kernel
theorem dX6_seekIfStale_12 : decode cX6_seekIfStale 12 = .ok (.iconst 0, 1) := by decide +kernel
theorem dX6_seekIfStale_13 : decode cX6_seekIfStale 13 = .ok (.putfield 18, 3) := by decide +kernel
theorem dX6_seekIfStale_16 : decode cX6_seekIfStale 16 = .ok (.return_, 1) := by decide +kernel
theorem dX6_seekFewest_0 : decode cX6_seekFewest 0 = .ok (.bipush 15, 2) := by decide +kernel
theorem dX6_seekFewest_2 : decode cX6_seekFewest 2 = .ok (.istore_n 1, 1) := by decide +kernel
theorem dX6_seekFewest_3 : decode cX6_seekFewest 3 = .ok (.iload_n 1, 1) := by decide +kernel
theorem dX6_seekFewest_4 : decode cX6_seekFewest 4 = .ok (.ifCond .lt 59, 3) := by decide +kernel
theorem dX6_seekFewest_7 : decode cX6_seekFewest 7 = .ok (.aload_n 0, 1) := by decide +kernel
theorem dX6_seekFewest_8 : decode cX6_seekFewest 8 = .ok (.getfield 37, 3) := by decide +kernel
theorem dX6_seekFewest_11 : decode cX6_seekFewest 11 = .ok (.iload_n 1, 1) := by decide +kernel
theorem dX6_seekFewest_12 : decode cX6_seekFewest 12 = .ok (.aload_n 0, 1) := by decide +kernel
theorem dX6_seekFewest_13 : decode cX6_seekFewest 13 = .ok (.iload_n 1, 1) := by decide +kernel
theorem dX6_seekFewest_14 : decode cX6_seekFewest 14 = .ok (.invokevirtual 59, 3) := by decide +kernel
theorem dX6_seekFewest_17 : decode cX6_seekFewest 17 = .ok (.ifCond .eq 17, 3) := by decide +kernel
theorem dX6_seekFewest_20 : decode cX6_seekFewest 20 = .ok (.aload_n 0, 1) := by decide +kernel
theorem dX6_seekFewest_21 : decode cX6_seekFewest 21 = .ok (.getfield 33, 3) := by decide +kernel
theorem dX6_seekFewest_24 : decode cX6_seekFewest 24 = .ok (.iload_n 1, 1) := by decide +kernel
theorem dX6_seekFewest_25 : decode cX6_seekFewest 25 = .ok (.laload, 1) := by decide +kernel
theorem dX6_seekFewest_26 : decode cX6_seekFewest 26 = .ok (.aload_n 0, 1) := by decide +kernel
theorem dX6_seekFewest_27 : decode cX6_seekFewest 27 = .ok (.getfield 29, 3) := by decide +kernel
theorem dX6_seekFewest_30 : decode cX6_seekFewest 30 = .ok (.land, 1) := by decide +kernel
theorem dX6_seekFewest_31 : decode cX6_seekFewest 31 = .ok (.goto 4, 3) := by decide +kernel
theorem dX6_seekFewest_34 : decode cX6_seekFewest 34 = .ok (.lconst 0, 1) := by decide +kernel
theorem dX6_seekFewest_35 : decode cX6_seekFewest 35 = .ok (.lastore, 1) := by decide +kernel
theorem dX6_seekFewest_36 : decode cX6_seekFewest 36 = .ok (.aload_n 0, 1) := by decide +kernel
theorem dX6_seekFewest_37 : decode cX6_seekFewest 37 = .ok (.getfield 40, 3) := by decide +kernel
theorem dX6_seekFewest_40 : decode cX6_seekFewest 40 = .ok (.iload_n 1, 1) := by decide +kernel
theorem dX6_seekFewest_41 : decode cX6_seekFewest 41 = .ok (.aload_n 0, 1) := by decide +kernel
theorem dX6_seekFewest_42 : decode cX6_seekFewest 42 = .ok (.getfield 37, 3) := by decide +kernel
theorem dX6_seekFewest_45 : decode cX6_seekFewest 45 = .ok (.iload_n 1, 1) := by decide +kernel
theorem dX6_seekFewest_46 : decode cX6_seekFewest 46 = .ok (.laload, 1) := by decide +kernel
theorem dX6_seekFewest_47 : decode cX6_seekFewest 47 = .ok (.aload_n 0, 1) := by decide +kernel
theorem dX6_seekFewest_48 : decode cX6_seekFewest 48 = .ok (.getfield 40, 3) := by decide +kernel
theorem dX6_seekFewest_51 : decode cX6_seekFewest 51 = .ok (.iload_n 1, 1) := by decide +kernel
theorem dX6_seekFewest_52 : decode cX6_seekFewest 52 = .ok (.iconst 1, 1) := by decide +kernel
theorem dX6_seekFewest_53 : decode cX6_seekFewest 53 = .ok (.iadd, 1) := by decide +kernel
theorem dX6_seekFewest_54 : decode cX6_seekFewest 54 = .ok (.laload, 1) := by decide +kernel
theorem dX6_seekFewest_55 : decode cX6_seekFewest 55 = .ok (.lor, 1) := by decide +kernel
theorem dX6_seekFewest_56 : decode cX6_seekFewest 56 = .ok (.lastore, 1) := by decide +kernel
theorem dX6_seekFewest_57 : decode cX6_seekFewest 57 = .ok (.iinc 1 (-1), 3) := by decide +kernel
theorem dX6_seekFewest_60 : decode cX6_seekFewest 60 = .ok (.goto (-57), 3) := by decide +kernel
theorem dX6_seekFewest_63 : decode cX6_seekFewest 63 = .ok (.aload_n 0, 1) := by decide +kernel
theorem dX6_seekFewest_64 : decode cX6_seekFewest 64 = .ok (.ldc 63, 2) := by decide +kernel
theorem dX6_seekFewest_66 : decode cX6_seekFewest 66 = .ok (.putfield 22, 3) := by decide +kernel
theorem dX6_seekFewest_69 : decode cX6_seekFewest 69 = .ok (.iconst 0, 1) := by decide +kernel
theorem dX6_seekFewest_70 : decode cX6_seekFewest 70 = .ok (.istore_n 1, 1) := by decide +kernel
theorem dX6_seekFewest_71 : decode cX6_seekFewest 71 = .ok (.iload_n 1, 1) := by decide +kernel
theorem dX6_seekFewest_72 : decode cX6_seekFewest 72 = .ok (.bipush 16, 2) := by decide +kernel
theorem dX6_seekFewest_74 : decode cX6_seekFewest 74 = .ok (.if_icmp .gt 34, 3) := by decide +kernel
theorem dX6_seekFewest_77 : decode cX6_seekFewest 77 = .ok (.aload_n 0, 1) := by decide +kernel
theorem dX6_seekFewest_78 : decode cX6_seekFewest 78 = .ok (.getfield 22, 3) := by decide +kernel
theorem dX6_seekFewest_81 : decode cX6_seekFewest 81 = .ok (.ldc 63, 2) := by decide +kernel
theorem dX6_seekFewest_83 : decode cX6_seekFewest 83 = .ok (.if_icmp .ne 25, 3) := by decide +kernel
theorem dX6_seekFewest_86 : decode cX6_seekFewest 86 = .ok (.aload_n 0, 1) := by decide +kernel
theorem dX6_seekFewest_87 : decode cX6_seekFewest 87 = .ok (.iconst 0, 1) := by decide +kernel
theorem dX6_seekFewest_88 : decode cX6_seekFewest 88 = .ok (.iconst 0, 1) := by decide +kernel
theorem dX6_seekFewest_89 : decode cX6_seekFewest 89 = .ok (.iload_n 1, 1) := by decide +kernel
theorem dX6_seekFewest_90 : decode cX6_seekFewest 90 = .ok (.lconst 0, 1) := by decide +kernel
theorem dX6_seekFewest_91 : decode cX6_seekFewest 91 = .ok (.invokevirtual 64, 3) := by decide +kernel
theorem dX6_seekFewest_94 : decode cX6_seekFewest 94 = .ok (.ifCond .eq 8, 3) := by decide +kernel
theorem dX6_seekFewest_97 : decode cX6_seekFewest 97 = .ok (.aload_n 0, 1) := by decide +kernel
theorem dX6_seekFewest_98 : decode cX6_seekFewest 98 = .ok (.iload_n 1, 1) := by decide +kernel
theorem dX6_seekFewest_99 : decode cX6_seekFewest 99 = .ok (.putfield 22, 3) := by decide +kernel
theorem dX6_seekFewest_102 : decode cX6_seekFewest 102 = .ok (.iinc 1 1, 3) := by decide +kernel
theorem dX6_seekFewest_105 : decode cX6_seekFewest 105 = .ok (.goto (-34), 3) := by decide +kernel
theorem dX6_seekFewest_108 : decode cX6_seekFewest 108 = .ok (.return_, 1) := by decide +kernel
theorem dX6_isCoveredFrom_0 : decode cX6_isCoveredFrom 0 = .ok (.lload 4, 2) := by decide +kernel
theorem dX6_isCoveredFrom_2 : decode cX6_isCoveredFrom 2 = .ok (.aload_n 0, 1) := by decide +kernel
theorem dX6_isCoveredFrom_3 : decode cX6_isCoveredFrom 3 = .ok (.getfield 29, 3) := by decide +kernel
theorem dX6_isCoveredFrom_6 : decode cX6_isCoveredFrom 6 = .ok (.lcmp, 1) := by decide +kernel
theorem dX6_isCoveredFrom_7 : decode cX6_isCoveredFrom 7 = .ok (.ifCond .ne 5, 3) := by decide +kernel
theorem dX6_isCoveredFrom_10 : decode cX6_isCoveredFrom 10 = .ok (.iconst 1, 1) := by decide +kernel
theorem dX6_isCoveredFrom_11 : decode cX6_isCoveredFrom 11 = .ok (.ireturn, 1) := by decide +kernel
theorem dX6_isCoveredFrom_12 : decode cX6_isCoveredFrom 12 = .ok (.iload_n 2, 1) := by decide +kernel
theorem dX6_isCoveredFrom_13 : decode cX6_isCoveredFrom 13 = .ok (.iload_n 3, 1) := by decide +kernel
theorem dX6_isCoveredFrom_14 : decode cX6_isCoveredFrom 14 = .ok (.if_icmp .ge 20, 3) := by decide +kernel
theorem dX6_isCoveredFrom_17 : decode cX6_isCoveredFrom 17 = .ok (.lload 4, 2) := by decide +kernel
theorem dX6_isCoveredFrom_19 : decode cX6_isCoveredFrom 19 = .ok (.aload_n 0, 1) := by decide +kernel
theorem dX6_isCoveredFrom_20 : decode cX6_isCoveredFrom 20 = .ok (.getfield 40, 3) := by decide +kernel
theorem dX6_isCoveredFrom_23 : decode cX6_isCoveredFrom 23 = .ok (.iload_n 1, 1) := by decide +kernel
theorem dX6_isCoveredFrom_24 : decode cX6_isCoveredFrom 24 = .ok (.laload, 1) := by decide +kernel
theorem dX6_isCoveredFrom_25 : decode cX6_isCoveredFrom 25 = .ok (.lor, 1) := by decide +kernel
theorem dX6_isCoveredFrom_26 : decode cX6_isCoveredFrom 26 = .ok (.aload_n 0, 1) := by decide +kernel
theorem dX6_isCoveredFrom_27 : decode cX6_isCoveredFrom 27 = .ok (.getfield 29, 3) := by decide +kernel
theorem dX6_isCoveredFrom_30 : decode cX6_isCoveredFrom 30 = .ok (.lcmp, 1) := by decide +kernel
theorem dX6_isCoveredFrom_31 : decode cX6_isCoveredFrom 31 = .ok (.ifCond .eq 5, 3) := by decide +kernel
theorem dX6_isCoveredFrom_34 : decode cX6_isCoveredFrom 34 = .ok (.iconst 0, 1) := by decide +kernel
theorem dX6_isCoveredFrom_35 : decode cX6_isCoveredFrom 35 = .ok (.ireturn, 1) := by decide +kernel
theorem dX6_isCoveredFrom_36 : decode cX6_isCoveredFrom 36 = .ok (.iload_n 1, 1) := by decide +kernel
theorem dX6_isCoveredFrom_37 : decode cX6_isCoveredFrom 37 = .ok (.istore 6, 2) := by decide +kernel
theorem dX6_isCoveredFrom_39 : decode cX6_isCoveredFrom 39 = .ok (.iload 6, 2) := by decide +kernel
theorem dX6_isCoveredFrom_41 : decode cX6_isCoveredFrom 41 = .ok (.bipush 16, 2) := by decide +kernel
theorem dX6_isCoveredFrom_43 : decode cX6_isCoveredFrom 43 = .ok (.if_icmp .ge 63, 3) := by decide +kernel
theorem dX6_isCoveredFrom_46 : decode cX6_isCoveredFrom 46 = .ok (.aload_n 0, 1) := by decide +kernel
theorem dX6_isCoveredFrom_47 : decode cX6_isCoveredFrom 47 = .ok (.getfield 37, 3) := by decide +kernel
theorem dX6_isCoveredFrom_50 : decode cX6_isCoveredFrom 50 = .ok (.iload 6, 2) := by decide +kernel
theorem dX6_isCoveredFrom_52 : decode cX6_isCoveredFrom 52 = .ok (.laload, 1) := by decide +kernel
theorem dX6_isCoveredFrom_53 : decode cX6_isCoveredFrom 53 = .ok (.lload 4, 2) := by decide +kernel
theorem dX6_isCoveredFrom_55 : decode cX6_isCoveredFrom 55 = .ok (.ldc2_w 68, 3) := by decide +kernel
theorem dX6_isCoveredFrom_58 : decode cX6_isCoveredFrom 58 = .ok (.lxor, 1) := by decide +kernel
theorem dX6_isCoveredFrom_59 : decode cX6_isCoveredFrom 59 = .ok (.land, 1) := by decide +kernel
theorem dX6_isCoveredFrom_60 : decode cX6_isCoveredFrom 60 = .ok (.lconst 0, 1) := by decide +kernel
theorem dX6_isCoveredFrom_61 : decode cX6_isCoveredFrom 61 = .ok (.lcmp, 1) := by decide +kernel
theorem dX6_isCoveredFrom_62 : decode cX6_isCoveredFrom 62 = .ok (.ifCond .eq 38, 3) := by decide +kernel
theorem dX6_isCoveredFrom_65 : decode cX6_isCoveredFrom 65 = .ok (.aload_n 0, 1) := by decide +kernel
theorem dX6_isCoveredFrom_66 : decode cX6_isCoveredFrom 66 = .ok (.getfield 25, 3) := by decide +kernel
theorem dX6_isCoveredFrom_69 : decode cX6_isCoveredFrom 69 = .ok (.iload_n 2, 1) := by decide +kernel
theorem dX6_isCoveredFrom_70 : decode cX6_isCoveredFrom 70 = .ok (.iload 6, 2) := by decide +kernel
theorem dX6_isCoveredFrom_72 : decode cX6_isCoveredFrom 72 = .ok (.iastore, 1) := by decide +kernel
theorem dX6_isCoveredFrom_73 : decode cX6_isCoveredFrom 73 = .ok (.aload_n 0, 1) := by decide +kernel
theorem dX6_isCoveredFrom_74 : decode cX6_isCoveredFrom 74 = .ok (.iload 6, 2) := by decide +kernel
theorem dX6_isCoveredFrom_76 : decode cX6_isCoveredFrom 76 = .ok (.iconst 1, 1) := by decide +kernel
theorem dX6_isCoveredFrom_77 : decode cX6_isCoveredFrom 77 = .ok (.iadd, 1) := by decide +kernel
theorem dX6_isCoveredFrom_78 : decode cX6_isCoveredFrom 78 = .ok (.iload_n 2, 1) := by decide +kernel
theorem dX6_isCoveredFrom_79 : decode cX6_isCoveredFrom 79 = .ok (.iconst 1, 1) := by decide +kernel
theorem dX6_isCoveredFrom_80 : decode cX6_isCoveredFrom 80 = .ok (.iadd, 1) := by decide +kernel
theorem dX6_isCoveredFrom_81 : decode cX6_isCoveredFrom 81 = .ok (.iload_n 3, 1) := by decide +kernel
theorem dX6_isCoveredFrom_82 : decode cX6_isCoveredFrom 82 = .ok (.lload 4, 2) := by decide +kernel
theorem dX6_isCoveredFrom_84 : decode cX6_isCoveredFrom 84 = .ok (.aload_n 0, 1) := by decide +kernel
theorem dX6_isCoveredFrom_85 : decode cX6_isCoveredFrom 85 = .ok (.getfield 37, 3) := by decide +kernel
theorem dX6_isCoveredFrom_88 : decode cX6_isCoveredFrom 88 = .ok (.iload 6, 2) := by decide +kernel
theorem dX6_isCoveredFrom_90 : decode cX6_isCoveredFrom 90 = .ok (.laload, 1) := by decide +kernel
theorem dX6_isCoveredFrom_91 : decode cX6_isCoveredFrom 91 = .ok (.lor, 1) := by decide +kernel
theorem dX6_isCoveredFrom_92 : decode cX6_isCoveredFrom 92 = .ok (.invokevirtual 64, 3) := by decide +kernel
theorem dX6_isCoveredFrom_95 : decode cX6_isCoveredFrom 95 = .ok (.ifCond .eq 5, 3) := by decide +kernel
theorem dX6_isCoveredFrom_98 : decode cX6_isCoveredFrom 98 = .ok (.iconst 1, 1) := by decide +kernel
theorem dX6_isCoveredFrom_99 : decode cX6_isCoveredFrom 99 = .ok (.ireturn, 1) := by decide +kernel
theorem dX6_isCoveredFrom_100 : decode cX6_isCoveredFrom 100 = .ok (.iinc 6 1, 3) := by decide +kernel
theorem dX6_isCoveredFrom_103 : decode cX6_isCoveredFrom 103 = .ok (.goto (-64), 3) := by decide +kernel
theorem dX6_isCoveredFrom_106 : decode cX6_isCoveredFrom 106 = .ok (.iconst 0, 1) := by decide +kernel
theorem dX6_isCoveredFrom_107 : decode cX6_isCoveredFrom 107 = .ok (.ireturn, 1) := by decide +kernel
theorem dX7_init_0 : decode cX7_init 0 = .ok (.aload_n 0, 1) := by decide +kernel
theorem dX7_init_1 : decode cX7_init 1 = .ok (.invokespecial 1, 3) := by decide +kernel
theorem dX7_init_4 : decode cX7_init 4 = .ok (.aload_n 0, 1) := by decide +kernel
theorem dX7_init_5 : decode cX7_init 5 = .ok (.lconst 0, 1) := by decide +kernel
theorem dX7_init_6 : decode cX7_init 6 = .ok (.putfield 7, 3) := by decide +kernel
theorem dX7_init_9 : decode cX7_init 9 = .ok (.aload_n 0, 1) := by decide +kernel
theorem dX7_init_10 : decode cX7_init 10 = .ok (.lconst 0, 1) := by decide +kernel
theorem dX7_init_11 : decode cX7_init 11 = .ok (.putfield 13, 3) := by decide +kernel
theorem dX7_init_14 : decode cX7_init 14 = .ok (.aload_n 0, 1) := by decide +kernel
theorem dX7_init_15 : decode cX7_init 15 = .ok (.iconst 0, 1) := by decide +kernel
theorem dX7_init_16 : decode cX7_init 16 = .ok (.putfield 16, 3) := by decide +kernel
theorem dX7_init_19 : decode cX7_init 19 = .ok (.aload_n 0, 1) := by decide +kernel
theorem dX7_init_20 : decode cX7_init 20 = .ok (.iconst 1, 1) := by decide +kernel
theorem dX7_init_21 : decode cX7_init 21 = .ok (.putfield 20, 3) := by decide +kernel
theorem dX7_init_24 : decode cX7_init 24 = .ok (.aload_n 0, 1) := by decide +kernel
theorem dX7_init_25 : decode cX7_init 25 = .ok (.iconst 1, 1) := by decide +kernel
theorem dX7_init_26 : decode cX7_init 26 = .ok (.putfield 23, 3) := by decide +kernel
theorem dX7_init_29 : decode cX7_init 29 = .ok (.return_, 1) := by decide +kernel
theorem dX7_copyFrom_0 : decode cX7_copyFrom 0 = .ok (.aload_n 0, 1) := by decide +kernel
theorem dX7_copyFrom_1 : decode cX7_copyFrom 1 = .ok (.aload_n 1, 1) := by decide +kernel
theorem dX7_copyFrom_2 : decode cX7_copyFrom 2 = .ok (.getfield 7, 3) := by decide +kernel
theorem dX7_copyFrom_5 : decode cX7_copyFrom 5 = .ok (.putfield 7, 3) := by decide +kernel
theorem dX7_copyFrom_8 : decode cX7_copyFrom 8 = .ok (.aload_n 0, 1) := by decide +kernel
theorem dX7_copyFrom_9 : decode cX7_copyFrom 9 = .ok (.aload_n 1, 1) := by decide +kernel
theorem dX7_copyFrom_10 : decode cX7_copyFrom 10 = .ok (.getfield 13, 3) := by decide +kernel
theorem dX7_copyFrom_13 : decode cX7_copyFrom 13 = .ok (.putfield 13, 3) := by decide +kernel
theorem dX7_copyFrom_16 : decode cX7_copyFrom 16 = .ok (.aload_n 0, 1) := by decide +kernel
theorem dX7_copyFrom_17 : decode cX7_copyFrom 17 = .ok (.aload_n 1, 1) := by decide +kernel
theorem dX7_copyFrom_18 : decode cX7_copyFrom 18 = .ok (.getfield 16, 3) := by decide +kernel
theorem dX7_copyFrom_21 : decode cX7_copyFrom 21 = .ok (.putfield 16, 3) := by decide +kernel
theorem dX7_copyFrom_24 : decode cX7_copyFrom 24 = .ok (.aload_n 0, 1) := by decide +kernel
theorem dX7_copyFrom_25 : decode cX7_copyFrom 25 = .ok (.aload_n 1, 1) := by decide +kernel
theorem dX7_copyFrom_26 : decode cX7_copyFrom 26 = .ok (.getfield 20, 3) := by decide +kernel
theorem dX7_copyFrom_29 : decode cX7_copyFrom 29 = .ok (.putfield 20, 3) := by decide +kernel
theorem dX7_copyFrom_32 : decode cX7_copyFrom 32 = .ok (.aload_n 0, 1) := by decide +kernel
theorem dX7_copyFrom_33 : decode cX7_copyFrom 33 = .ok (.aload_n 1, 1) := by decide +kernel
theorem dX7_copyFrom_34 : decode cX7_copyFrom 34 = .ok (.getfield 23, 3) := by decide +kernel
theorem dX7_copyFrom_37 : decode cX7_copyFrom 37 = .ok (.putfield 23, 3) := by decide +kernel
theorem dX7_copyFrom_40 : decode cX7_copyFrom 40 = .ok (.return_, 1) := by decide +kernel
theorem dX7_growByMonth_0 : decode cX7_growByMonth 0 = .ok (.aload_n 0, 1) := by decide +kernel
theorem dX7_growByMonth_1 : decode cX7_growByMonth 1 = .ok (.dup, 1) := by decide +kernel
theorem dX7_growByMonth_2 : decode cX7_growByMonth 2 = .ok (.getfield 7, 3) := by decide +kernel
theorem dX7_growByMonth_5 : decode cX7_growByMonth 5 = .ok (.aload_n 0, 1) := by decide +kernel
theorem dX7_growByMonth_6 : decode cX7_growByMonth 6 = .ok (.getfield 7, 3) := by decide +kernel
theorem dX7_growByMonth_9 : decode cX7_growByMonth 9 = .ok (.ldc2_w 27, 3) := by decide +kernel
theorem dX7_growByMonth_12 : decode cX7_growByMonth 12 = .ok (.ldiv, 1) := by decide +kernel
theorem dX7_growByMonth_13 : decode cX7_growByMonth 13 = .ok (.aload_n 0, 1) := by decide +kernel
theorem dX7_growByMonth_14 : decode cX7_growByMonth 14 = .ok (.getfield 16, 3) := by decide +kernel
theorem dX7_growByMonth_17 : decode cX7_growByMonth 17 = .ok (.i2l, 1) := by decide +kernel
theorem dX7_growByMonth_18 : decode cX7_growByMonth 18 = .ok (.lmul, 1) := by decide +kernel
theorem dX7_growByMonth_19 : decode cX7_growByMonth 19 = .ok (.aload_n 0, 1) := by decide +kernel
theorem dX7_growByMonth_20 : decode cX7_growByMonth 20 = .ok (.getfield 7, 3) := by decide +kernel
theorem dX7_growByMonth_23 : decode cX7_growByMonth 23 = .ok (.ldc2_w 27, 3) := by decide +kernel
theorem dX7_growByMonth_26 : decode cX7_growByMonth 26 = .ok (.lrem, 1) := by decide +kernel
theorem dX7_growByMonth_27 : decode cX7_growByMonth 27 = .ok (.aload_n 0, 1) := by decide +kernel
theorem dX7_growByMonth_28 : decode cX7_growByMonth 28 = .ok (.getfield 16, 3) := by decide +kernel
theorem dX7_growByMonth_31 : decode cX7_growByMonth 31 = .ok (.i2l, 1) := by decide +kernel
theorem dX7_growByMonth_32 : decode cX7_growByMonth 32 = .ok (.lmul, 1) := by decide +kernel
theorem dX7_growByMonth_33 : decode cX7_growByMonth 33 = .ok (.ldc2_w 27, 3) := by decide +kernel
theorem dX7_growByMonth_36 : decode cX7_growByMonth 36 = .ok (.ldiv, 1) := by decide +kernel
theorem dX7_growByMonth_37 : decode cX7_growByMonth 37 = .ok (.ladd, 1) := by decide +kernel
theorem dX7_growByMonth_38 : decode cX7_growByMonth 38 = .ok (.ladd, 1) := by decide +kernel
theorem dX7_growByMonth_39 : decode cX7_growByMonth 39 = .ok (.putfield 7, 3) := by decide +kernel
theorem dX7_growByMonth_42 : decode cX7_growByMonth 42 = .ok (.aload_n 0, 1) := by decide +kernel
theorem dX7_growByMonth_43 : decode cX7_growByMonth 43 = .ok (.aload_n 0, 1) := by decide +kernel
theorem dX7_growByMonth_44 : decode cX7_growByMonth 44 = .ok (.getfield 13, 3) := by decide +kernel
theorem dX7_growByMonth_47 : decode cX7_growByMonth 47 = .ok (.aload_n 0, 1) := by decide +kernel
theorem dX7_growByMonth_48 : decode cX7_growByMonth 48 = .ok (.getfield 20, 3) := by decide +kernel
theorem dX7_growByMonth_51 : decode cX7_growByMonth 51 = .ok (.i2l, 1) := by decide +kernel
theorem dX7_growByMonth_52 : decode cX7_growByMonth 52 = .ok (.ladd, 1) := by decide +kernel
theorem dX7_growByMonth_53 : decode cX7_growByMonth 53 = .ok (.aload_n 0, 1) := by decide +kernel
theorem dX7_growByMonth_54 : decode cX7_growByMonth 54 = .ok (.getfield 7, 3) := by decide +kernel
theorem dX7_growByMonth_57 : decode cX7_growByMonth 57 = .ok (.invokestatic 29, 3) := by decide +kernel
theorem dX7_growByMonth_60 : decode cX7_growByMonth 60 = .ok (.putfield 13, 3) := by decide +kernel
theorem dX7_growByMonth_63 : decode cX7_growByMonth 63 = .ok (.return_, 1) := by decide +kernel
theorem dX7_partsDue_0 : decode cX7_partsDue 0 = .ok (.aload_n 0, 1) := by decide +kernel
theorem dX7_partsDue_1 : decode cX7_partsDue 1 = .ok (.getfield 20, 3) := by decide +kernel
theorem dX7_partsDue_4 : decode cX7_partsDue 4 = .ok (.ifCond .le 16, 3) := by decide +kernel
theorem dX7_partsDue_7 : decode cX7_partsDue 7 = .ok (.aload_n 0, 1) := by decide +kernel
theorem dX7_partsDue_8 : decode cX7_partsDue 8 = .ok (.getfield 13, 3) := by decide +kernel
theorem dX7_partsDue_11 : decode cX7_partsDue 11 = .ok (.aload_n 0, 1) := by decide +kernel
theorem dX7_partsDue_12 : decode cX7_partsDue 12 = .ok (.getfield 20, 3) := by decide +kernel
theorem dX7_partsDue_15 : decode cX7_partsDue 15 = .ok (.i2l, 1) := by decide +kernel
theorem dX7_partsDue_16 : decode cX7_partsDue 16 = .ok (.ldiv, 1) := by decide +kernel
theorem dX7_partsDue_17 : decode cX7_partsDue 17 = .ok (.goto 4, 3) := by decide +kernel
theorem dX7_partsDue_20 : decode cX7_partsDue 20 = .ok (.lconst 0, 1) := by decide +kernel
theorem dX7_partsDue_21 : decode cX7_partsDue 21 = .ok (.lreturn, 1) := by decide +kernel
