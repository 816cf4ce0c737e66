/-! decode rows (from claim/NAMES.whole.lean.txt) -/
theorem dX7_valueOf_0 : decode cX7_valueOf 0 = .ok (.iload_n 1, 1) := by decide +kernel
theorem dX7_valueOf_1 : decode cX7_valueOf 1 = .ok (.lookupswitch 61 #[(97, 43), (100, 48), (109, 58), (111, 53)], 43) := by decide +kernel
theorem dX7_valueOf_44 : decode cX7_valueOf 44 = .ok (.aload_n 0, 1) := by decide +kernel
theorem dX7_valueOf_45 : decode cX7_valueOf 45 = .ok (.invokevirtual 35, 3) := by decide +kernel
theorem dX7_valueOf_48 : decode cX7_valueOf 48 = .ok (.lreturn, 1) := by decide +kernel
theorem dX7_valueOf_49 : decode cX7_valueOf 49 = .ok (.aload_n 0, 1) := by decide +kernel
theorem dX7_valueOf_50 : decode cX7_valueOf 50 = .ok (.getfield 13, 3) := by decide +kernel
theorem dX7_valueOf_53 : decode cX7_valueOf 53 = .ok (.lreturn, 1) := by decide +kernel
theorem dX7_valueOf_54 : decode cX7_valueOf 54 = .ok (.aload_n 0, 1) := by decide +kernel
theorem dX7_valueOf_55 : decode cX7_valueOf 55 = .ok (.getfield 7, 3) := by decide +kernel
theorem dX7_valueOf_58 : decode cX7_valueOf 58 = .ok (.lreturn, 1) := by decide +kernel
theorem dX7_valueOf_59 : decode cX7_valueOf 59 = .ok (.iload_n 2, 1) := by decide +kernel
theorem dX7_valueOf_60 : decode cX7_valueOf 60 = .ok (.i2l, 1) := by decide +kernel
theorem dX7_valueOf_61 : decode cX7_valueOf 61 = .ok (.lreturn, 1) := by decide +kernel
theorem dX7_valueOf_62 : decode cX7_valueOf 62 = .ok (.aload_n 0, 1) := by decide +kernel
theorem dX7_valueOf_63 : decode cX7_valueOf 63 = .ok (.getfield 23, 3) := by decide +kernel
theorem dX7_valueOf_66 : decode cX7_valueOf 66 = .ok (.ifCond .eq 7, 3) := by decide +kernel
theorem dX7_valueOf_69 : decode cX7_valueOf 69 = .ok (.lconst 1, 1) := by decide +kernel
theorem dX7_valueOf_70 : decode cX7_valueOf 70 = .ok (.goto 4, 3) := by decide +kernel
theorem dX7_valueOf_73 : decode cX7_valueOf 73 = .ok (.lconst 0, 1) := by decide +kernel
theorem dX7_valueOf_74 : decode cX7_valueOf 74 = .ok (.lreturn, 1) := by decide +kernel
theorem dX8_init_0 : decode cX8_init 0 = .ok (.aload_n 0, 1) := by decide +kernel
theorem dX8_init_1 : decode cX8_init 1 = .ok (.invokespecial 3, 3) := by decide +kernel
theorem dX8_init_4 : decode cX8_init 4 = .ok (.aload_n 0, 1) := by decide +kernel
theorem dX8_init_5 : decode cX8_init 5 = .ok (.iconst 0, 1) := by decide +kernel
theorem dX8_init_6 : decode cX8_init 6 = .ok (.putfield 9, 3) := by decide +kernel
theorem dX8_init_9 : decode cX8_init 9 = .ok (.aload_n 0, 1) := by decide +kernel
theorem dX8_init_10 : decode cX8_init 10 = .ok (.iconst 0, 1) := by decide +kernel
theorem dX8_init_11 : decode cX8_init 11 = .ok (.putfield 15, 3) := by decide +kernel
theorem dX8_init_14 : decode cX8_init 14 = .ok (.aload_n 0, 1) := by decide +kernel
theorem dX8_init_15 : decode cX8_init 15 = .ok (.bipush 60, 2) := by decide +kernel
theorem dX8_init_17 : decode cX8_init 17 = .ok (.newarray .byte, 2) := by decide +kernel
theorem dX8_init_19 : decode cX8_init 19 = .ok (.putfield 18, 3) := by decide +kernel
theorem dX8_init_22 : decode cX8_init 22 = .ok (.aload_n 0, 1) := by decide +kernel
theorem dX8_init_23 : decode cX8_init 23 = .ok (.iconst 0, 1) := by decide +kernel
theorem dX8_init_24 : decode cX8_init 24 = .ok (.putfield 22, 3) := by decide +kernel
theorem dX8_init_27 : decode cX8_init 27 = .ok (.aload_n 0, 1) := by decide +kernel
theorem dX8_init_28 : decode cX8_init 28 = .ok (.iconst 0, 1) := by decide +kernel
theorem dX8_init_29 : decode cX8_init 29 = .ok (.putfield 25, 3) := by decide +kernel
theorem dX8_init_32 : decode cX8_init 32 = .ok (.aload_n 0, 1) := by decide +kernel
theorem dX8_init_33 : decode cX8_init 33 = .ok (.iload_n 1, 1) := by decide +kernel
theorem dX8_init_34 : decode cX8_init 34 = .ok (.putfield 28, 3) := by decide +kernel
theorem dX8_init_37 : decode cX8_init 37 = .ok (.return_, 1) := by decide +kernel
theorem dX8_takeBytes_0 : decode cX8_takeBytes 0 = .ok (.iconst 0, 1) := by decide +kernel
theorem dX8_takeBytes_1 : decode cX8_takeBytes 1 = .ok (.istore_n 3, 1) := by decide +kernel
theorem dX8_takeBytes_2 : decode cX8_takeBytes 2 = .ok (.iload_n 3, 1) := by decide +kernel
theorem dX8_takeBytes_3 : decode cX8_takeBytes 3 = .ok (.bipush 8, 2) := by decide +kernel
theorem dX8_takeBytes_5 : decode cX8_takeBytes 5 = .ok (.if_icmp .ge 24, 3) := by decide +kernel
theorem dX8_takeBytes_8 : decode cX8_takeBytes 8 = .ok (.lload_n 1, 1) := by decide +kernel
theorem dX8_takeBytes_9 : decode cX8_takeBytes 9 = .ok (.bipush 8, 2) := by decide +kernel
theorem dX8_takeBytes_11 : decode cX8_takeBytes 11 = .ok (.iload_n 3, 1) := by decide +kernel
theorem dX8_takeBytes_12 : decode cX8_takeBytes 12 = .ok (.imul, 1) := by decide +kernel
theorem dX8_takeBytes_13 : decode cX8_takeBytes 13 = .ok (.lushr, 1) := by decide +kernel
theorem dX8_takeBytes_14 : decode cX8_takeBytes 14 = .ok (.ldc2_w 31, 3) := by decide +kernel
theorem dX8_takeBytes_17 : decode cX8_takeBytes 17 = .ok (.land, 1) := by decide +kernel
theorem dX8_takeBytes_18 : decode cX8_takeBytes 18 = .ok (.lconst 0, 1) := by decide +kernel
theorem dX8_takeBytes_19 : decode cX8_takeBytes 19 = .ok (.lcmp, 1) := by decide +kernel
theorem dX8_takeBytes_20 : decode cX8_takeBytes 20 = .ok (.ifCond .eq 9, 3) := by decide +kernel
theorem dX8_takeBytes_23 : decode cX8_takeBytes 23 = .ok (.iinc 3 1, 3) := by decide +kernel
theorem dX8_takeBytes_26 : decode cX8_takeBytes 26 = .ok (.goto (-24), 3) := by decide +kernel
theorem dX8_takeBytes_29 : decode cX8_takeBytes 29 = .ok (.aload_n 0, 1) := by decide +kernel
theorem dX8_takeBytes_30 : decode cX8_takeBytes 30 = .ok (.getfield 9, 3) := by decide +kernel
theorem dX8_takeBytes_33 : decode cX8_takeBytes 33 = .ok (.iload_n 3, 1) := by decide +kernel
theorem dX8_takeBytes_34 : decode cX8_takeBytes 34 = .ok (.iadd, 1) := by decide +kernel
theorem dX8_takeBytes_35 : decode cX8_takeBytes 35 = .ok (.bipush 60, 2) := by decide +kernel
theorem dX8_takeBytes_37 : decode cX8_takeBytes 37 = .ok (.if_icmp .le 5, 3) := by decide +kernel
theorem dX8_takeBytes_40 : decode cX8_takeBytes 40 = .ok (.iconst 0, 1) := by decide +kernel
theorem dX8_takeBytes_41 : decode cX8_takeBytes 41 = .ok (.ireturn, 1) := by decide +kernel
theorem dX8_takeBytes_42 : decode cX8_takeBytes 42 = .ok (.iconst 0, 1) := by decide +kernel
theorem dX8_takeBytes_43 : decode cX8_takeBytes 43 = .ok (.istore 4, 2) := by decide +kernel
theorem dX8_takeBytes_45 : decode cX8_takeBytes 45 = .ok (.iload 4, 2) := by decide +kernel
theorem dX8_takeBytes_47 : decode cX8_takeBytes 47 = .ok (.iload_n 3, 1) := by decide +kernel
theorem dX8_takeBytes_48 : decode cX8_takeBytes 48 = .ok (.if_icmp .ge 30, 3) := by decide +kernel
theorem dX8_takeBytes_51 : decode cX8_takeBytes 51 = .ok (.aload_n 0, 1) := by decide +kernel
theorem dX8_takeBytes_52 : decode cX8_takeBytes 52 = .ok (.getfield 18, 3) := by decide +kernel
theorem dX8_takeBytes_55 : decode cX8_takeBytes 55 = .ok (.aload_n 0, 1) := by decide +kernel
theorem dX8_takeBytes_56 : decode cX8_takeBytes 56 = .ok (.getfield 9, 3) := by decide +kernel
theorem dX8_takeBytes_59 : decode cX8_takeBytes 59 = .ok (.iload 4, 2) := by decide +kernel
theorem dX8_takeBytes_61 : decode cX8_takeBytes 61 = .ok (.iadd, 1) := by decide +kernel
theorem dX8_takeBytes_62 : decode cX8_takeBytes 62 = .ok (.lload_n 1, 1) := by decide +kernel
theorem dX8_takeBytes_63 : decode cX8_takeBytes 63 = .ok (.bipush 8, 2) := by decide +kernel
theorem dX8_takeBytes_65 : decode cX8_takeBytes 65 = .ok (.iload 4, 2) := by decide +kernel
theorem dX8_takeBytes_67 : decode cX8_takeBytes 67 = .ok (.imul, 1) := by decide +kernel
theorem dX8_takeBytes_68 : decode cX8_takeBytes 68 = .ok (.lushr, 1) := by decide +kernel
theorem dX8_takeBytes_69 : decode cX8_takeBytes 69 = .ok (.l2i, 1) := by decide +kernel
theorem dX8_takeBytes_70 : decode cX8_takeBytes 70 = .ok (.i2b, 1) := by decide +kernel
theorem dX8_takeBytes_71 : decode cX8_takeBytes 71 = .ok (.bastore, 1) := by decide +kernel
theorem dX8_takeBytes_72 : decode cX8_takeBytes 72 = .ok (.iinc 4 1, 3) := by decide +kernel
theorem dX8_takeBytes_75 : decode cX8_takeBytes 75 = .ok (.goto (-30), 3) := by decide +kernel
theorem dX8_takeBytes_78 : decode cX8_takeBytes 78 = .ok (.aload_n 0, 1) := by decide +kernel
theorem dX8_takeBytes_79 : decode cX8_takeBytes 79 = .ok (.dup, 1) := by decide +kernel
theorem dX8_takeBytes_80 : decode cX8_takeBytes 80 = .ok (.getfield 9, 3) := by decide +kernel
theorem dX8_takeBytes_83 : decode cX8_takeBytes 83 = .ok (.iload_n 3, 1) := by decide +kernel
theorem dX8_takeBytes_84 : decode cX8_takeBytes 84 = .ok (.iadd, 1) := by decide +kernel
theorem dX8_takeBytes_85 : decode cX8_takeBytes 85 = .ok (.putfield 9, 3) := by decide +kernel
theorem dX8_takeBytes_88 : decode cX8_takeBytes 88 = .ok (.aload_n 0, 1) := by decide +kernel
theorem dX8_takeBytes_89 : decode cX8_takeBytes 89 = .ok (.aload_n 0, 1) := by decide +kernel
theorem dX8_takeBytes_90 : decode cX8_takeBytes 90 = .ok (.invokevirtual 33, 3) := by decide +kernel
theorem dX8_takeBytes_93 : decode cX8_takeBytes 93 = .ok (.putfield 15, 3) := by decide +kernel
theorem dX8_takeBytes_96 : decode cX8_takeBytes 96 = .ok (.iconst 1, 1) := by decide +kernel
theorem dX8_takeBytes_97 : decode cX8_takeBytes 97 = .ok (.ireturn, 1) := by decide +kernel
theorem dX8_saysOf_0 : decode cX8_saysOf 0 = .ok (.aload_n 3, 1) := by decide +kernel
theorem dX8_saysOf_1 : decode cX8_saysOf 1 = .ok (.invokevirtual 37, 3) := by decide +kernel
theorem dX8_saysOf_4 : decode cX8_saysOf 4 = .ok (.iconst 0, 1) := by decide +kernel
theorem dX8_saysOf_5 : decode cX8_saysOf 5 = .ok (.istore 4, 2) := by decide +kernel
theorem dX8_saysOf_7 : decode cX8_saysOf 7 = .ok (.iload 4, 2) := by decide +kernel
theorem dX8_saysOf_9 : decode cX8_saysOf 9 = .ok (.aload_n 0, 1) := by decide +kernel
theorem dX8_saysOf_10 : decode cX8_saysOf 10 = .ok (.getfield 9, 3) := by decide +kernel
theorem dX8_saysOf_13 : decode cX8_saysOf 13 = .ok (.if_icmp .ge 94, 3) := by decide +kernel
theorem dX8_saysOf_16 : decode cX8_saysOf 16 = .ok (.aload_n 0, 1) := by decide +kernel
theorem dX8_saysOf_17 : decode cX8_saysOf 17 = .ok (.getfield 18, 3) := by decide +kernel
theorem dX8_saysOf_20 : decode cX8_saysOf 20 = .ok (.iload 4, 2) := by decide +kernel
theorem dX8_saysOf_22 : decode cX8_saysOf 22 = .ok (.baload, 1) := by decide +kernel
theorem dX8_saysOf_23 : decode cX8_saysOf 23 = .ok (.istore 5, 2) := by decide +kernel
theorem dX8_saysOf_25 : decode cX8_saysOf 25 = .ok (.iload 5, 2) := by decide +kernel
theorem dX8_saysOf_27 : decode cX8_saysOf 27 = .ok (.bipush 33, 2) := by decide +kernel
theorem dX8_saysOf_29 : decode cX8_saysOf 29 = .ok (.if_icmp .ne 10, 3) := by decide +kernel
theorem dX8_saysOf_32 : decode cX8_saysOf 32 = .ok (.aload_n 3, 1) := by decide +kernel
theorem dX8_saysOf_33 : decode cX8_saysOf 33 = .ok (.invokevirtual 42, 3) := by decide +kernel
theorem dX8_saysOf_36 : decode cX8_saysOf 36 = .ok (.goto 65, 3) := by decide +kernel
theorem dX8_saysOf_39 : decode cX8_saysOf 39 = .ok (.iload 5, 2) := by decide +kernel
theorem dX8_saysOf_41 : decode cX8_saysOf 41 = .ok (.bipush 124, 2) := by decide +kernel
theorem dX8_saysOf_43 : decode cX8_saysOf 43 = .ok (.if_icmp .ne 10, 3) := by decide +kernel
theorem dX8_saysOf_46 : decode cX8_saysOf 46 = .ok (.aload_n 3, 1) := by decide +kernel
theorem dX8_saysOf_47 : decode cX8_saysOf 47 = .ok (.invokevirtual 45, 3) := by decide +kernel
theorem dX8_saysOf_50 : decode cX8_saysOf 50 = .ok (.goto 51, 3) := by decide +kernel
theorem dX8_saysOf_53 : decode cX8_saysOf 53 = .ok (.iload 5, 2) := by decide +kernel
theorem dX8_saysOf_55 : decode cX8_saysOf 55 = .ok (.bipush 40, 2) := by decide +kernel
theorem dX8_saysOf_57 : decode cX8_saysOf 57 = .ok (.if_icmp .ne 10, 3) := by decide +kernel
theorem dX8_saysOf_60 : decode cX8_saysOf 60 = .ok (.aload_n 3, 1) := by decide +kernel
theorem dX8_saysOf_61 : decode cX8_saysOf 61 = .ok (.invokevirtual 48, 3) := by decide +kernel
theorem dX8_saysOf_64 : decode cX8_saysOf 64 = .ok (.goto 37, 3) := by decide +kernel
theorem dX8_saysOf_67 : decode cX8_saysOf 67 = .ok (.iload 5, 2) := by decide +kernel
theorem dX8_saysOf_69 : decode cX8_saysOf 69 = .ok (.bipush 41, 2) := by decide +kernel
theorem dX8_saysOf_71 : decode cX8_saysOf 71 = .ok (.if_icmp .ne 10, 3) := by decide +kernel
theorem dX8_saysOf_74 : decode cX8_saysOf 74 = .ok (.aload_n 3, 1) := by decide +kernel
theorem dX8_saysOf_75 : decode cX8_saysOf 75 = .ok (.invokevirtual 51, 3) := by decide +kernel
theorem dX8_saysOf_78 : decode cX8_saysOf 78 = .ok (.goto 23, 3) := by decide +kernel
theorem dX8_saysOf_81 : decode cX8_saysOf 81 = .ok (.iload 5, 2) := by decide +kernel
theorem dX8_saysOf_83 : decode cX8_saysOf 83 = .ok (.invokestatic 54, 3) := by decide +kernel
theorem dX8_saysOf_86 : decode cX8_saysOf 86 = .ok (.ifCond .eq 15, 3) := by decide +kernel
theorem dX8_saysOf_89 : decode cX8_saysOf 89 = .ok (.aload_n 3, 1) := by decide +kernel
theorem dX8_saysOf_90 : decode cX8_saysOf 90 = .ok (.aload_n 0, 1) := by decide +kernel
theorem dX8_saysOf_91 : decode cX8_saysOf 91 = .ok (.iload 4, 2) := by decide +kernel
theorem dX8_saysOf_93 : decode cX8_saysOf 93 = .ok (.aload_n 1, 1) := by decide +kernel
theorem dX8_saysOf_94 : decode cX8_saysOf 94 = .ok (.iload_n 2, 1) := by decide +kernel
theorem dX8_saysOf_95 : decode cX8_saysOf 95 = .ok (.invokevirtual 58, 3) := by decide +kernel
theorem dX8_saysOf_98 : decode cX8_saysOf 98 = .ok (.invokevirtual 62, 3) := by decide +kernel
theorem dX8_saysOf_101 : decode cX8_saysOf 101 = .ok (.iinc 4 1, 3) := by decide +kernel
theorem dX8_saysOf_104 : decode cX8_saysOf 104 = .ok (.goto (-97), 3) := by decide +kernel
theorem dX8_saysOf_107 : decode cX8_saysOf 107 = .ok (.aload_n 3, 1) := by decide +kernel
theorem dX8_saysOf_108 : decode cX8_saysOf 108 = .ok (.invokevirtual 66, 3) := by decide +kernel
theorem dX8_saysOf_111 : decode cX8_saysOf 111 = .ok (.ireturn, 1) := by decide +kernel
theorem dX8_findWrong_0 : decode cX8_findWrong 0 = .ok (.iconst 0, 1) := by decide +kernel
theorem dX8_findWrong_1 : decode cX8_findWrong 1 = .ok (.istore_n 1, 1) := by decide +kernel
theorem dX8_findWrong_2 : decode cX8_findWrong 2 = .ok (.aload_n 0, 1) := by decide +kernel
theorem dX8_findWrong_3 : decode cX8_findWrong 3 = .ok (.iconst 0, 1) := by decide +kernel
theorem dX8_findWrong_4 : decode cX8_findWrong 4 = .ok (.putfield 22, 3) := by decide +kernel
theorem dX8_findWrong_7 : decode cX8_findWrong 7 = .ok (.iconst 0, 1) := by decide +kernel
theorem dX8_findWrong_8 : decode cX8_findWrong 8 = .ok (.istore_n 2, 1) := by decide +kernel
theorem dX8_findWrong_9 : decode cX8_findWrong 9 = .ok (.iload_n 2, 1) := by decide +kernel
theorem dX8_findWrong_10 : decode cX8_findWrong 10 = .ok (.aload_n 0, 1) := by decide +kernel
theorem dX8_findWrong_11 : decode cX8_findWrong 11 = .ok (.getfield 9, 3) := by decide +kernel
theorem dX8_findWrong_14 : decode cX8_findWrong 14 = .ok (.if_icmp .ge 28, 3) := by decide +kernel
theorem dX8_findWrong_17 : decode cX8_findWrong 17 = .ok (.aload_n 0, 1) := by decide +kernel
theorem dX8_findWrong_18 : decode cX8_findWrong 18 = .ok (.iload_n 1, 1) := by decide +kernel
theorem dX8_findWrong_19 : decode cX8_findWrong 19 = .ok (.aload_n 0, 1) := by decide +kernel
theorem dX8_findWrong_20 : decode cX8_findWrong 20 = .ok (.getfield 18, 3) := by decide +kernel
theorem dX8_findWrong_23 : decode cX8_findWrong 23 = .ok (.iload_n 2, 1) := by decide +kernel
theorem dX8_findWrong_24 : decode cX8_findWrong 24 = .ok (.baload, 1) := by decide +kernel
theorem dX8_findWrong_25 : decode cX8_findWrong 25 = .ok (.invokevirtual 70, 3) := by decide +kernel
theorem dX8_findWrong_28 : decode cX8_findWrong 28 = .ok (.istore_n 1, 1) := by decide +kernel
theorem dX8_findWrong_29 : decode cX8_findWrong 29 = .ok (.iload_n 1, 1) := by decide +kernel
theorem dX8_findWrong_30 : decode cX8_findWrong 30 = .ok (.iconst 5, 1) := by decide +kernel
theorem dX8_findWrong_31 : decode cX8_findWrong 31 = .ok (.if_icmp .ne 5, 3) := by decide +kernel
theorem dX8_findWrong_34 : decode cX8_findWrong 34 = .ok (.iload_n 2, 1) := by decide +kernel
theorem dX8_findWrong_35 : decode cX8_findWrong 35 = .ok (.ireturn, 1) := by decide +kernel
theorem dX8_findWrong_36 : decode cX8_findWrong 36 = .ok (.iinc 2 1, 3) := by decide +kernel
theorem dX8_findWrong_39 : decode cX8_findWrong 39 = .ok (.goto (-30), 3) := by decide +kernel
theorem dX8_findWrong_42 : decode cX8_findWrong 42 = .ok (.aload_n 0, 1) := by decide +kernel
theorem dX8_findWrong_43 : decode cX8_findWrong 43 = .ok (.getfield 22, 3) := by decide +kernel
theorem dX8_findWrong_46 : decode cX8_findWrong 46 = .ok (.ifCond .ne 17, 3) := by decide +kernel
theorem dX8_findWrong_49 : decode cX8_findWrong 49 = .ok (.iload_n 1, 1) := by decide +kernel
theorem dX8_findWrong_50 : decode cX8_findWrong 50 = .ok (.iconst 3, 1) := by decide +kernel
theorem dX8_findWrong_51 : decode cX8_findWrong 51 = .ok (.if_icmp .eq 8, 3) := by decide +kernel
theorem dX8_findWrong_54 : decode cX8_findWrong 54 = .ok (.iload_n 1, 1) := by decide +kernel
theorem dX8_findWrong_55 : decode cX8_findWrong 55 = .ok (.iconst 4, 1) := by decide +kernel
theorem dX8_findWrong_56 : decode cX8_findWrong 56 = .ok (.if_icmp .ne 7, 3) := by decide +kernel
theorem dX8_findWrong_59 : decode cX8_findWrong 59 = .ok (.iconst 1, 1) := by decide +kernel
theorem dX8_findWrong_60 : decode cX8_findWrong 60 = .ok (.goto 4, 3) := by decide +kernel
theorem dX8_findWrong_63 : decode cX8_findWrong 63 = .ok (.iconst 0, 1) := by decide +kernel
theorem dX8_findWrong_64 : decode cX8_findWrong 64 = .ok (.istore_n 2, 1) := by decide +kernel
theorem dX8_findWrong_65 : decode cX8_findWrong 65 = .ok (.iload_n 2, 1) := by decide +kernel
theorem dX8_findWrong_66 : decode cX8_findWrong 66 = .ok (.ifCond .eq 8, 3) := by decide +kernel
theorem dX8_findWrong_69 : decode cX8_findWrong 69 = .ok (.ldc 74, 2) := by decide +kernel
theorem dX8_findWrong_71 : decode cX8_findWrong 71 = .ok (.goto 7, 3) := by decide +kernel
theorem dX8_findWrong_74 : decode cX8_findWrong 74 = .ok (.aload_n 0, 1) := by decide +kernel
theorem dX8_findWrong_75 : decode cX8_findWrong 75 = .ok (.getfield 9, 3) := by decide +kernel
theorem dX8_findWrong_78 : decode cX8_findWrong 78 = .ok (.ireturn, 1) := by decide +kernel
theorem dX8_wantsAfter_0 : decode cX8_wantsAfter 0 = .ok (.iload_n 2, 1) := by decide +kernel
theorem dX8_wantsAfter_1 : decode cX8_wantsAfter 1 = .ok (.bipush 32, 2) := by decide +kernel
theorem dX8_wantsAfter_3 : decode cX8_wantsAfter 3 = .ok (.if_icmp .ne 14, 3) := by decide +kernel
theorem dX8_wantsAfter_6 : decode cX8_wantsAfter 6 = .ok (.iload_n 1, 1) := by decide +kernel
theorem dX8_wantsAfter_7 : decode cX8_wantsAfter 7 = .ok (.iconst 3, 1) := by decide +kernel
theorem dX8_wantsAfter_8 : decode cX8_wantsAfter 8 = .ok (.if_icmp .ne 7, 3) := by decide +kernel
theorem dX8_wantsAfter_11 : decode cX8_wantsAfter 11 = .ok (.iconst 4, 1) := by decide +kernel
theorem dX8_wantsAfter_12 : decode cX8_wantsAfter 12 = .ok (.goto 4, 3) := by decide +kernel
theorem dX8_wantsAfter_15 : decode cX8_wantsAfter 15 = .ok (.iload_n 1, 1) := by decide +kernel
theorem dX8_wantsAfter_16 : decode cX8_wantsAfter 16 = .ok (.ireturn, 1) := by decide +kernel
theorem dX8_wantsAfter_17 : decode cX8_wantsAfter 17 = .ok (.iload_n 1, 1) := by decide +kernel
theorem dX8_wantsAfter_18 : decode cX8_wantsAfter 18 = .ok (.tableswitch 101 0 3 #[30, 36, 60, 81], 30) := by decide +kernel
theorem dX8_wantsAfter_48 : decode cX8_wantsAfter 48 = .ok (.aload_n 0, 1) := by decide +kernel
theorem dX8_wantsAfter_49 : decode cX8_wantsAfter 49 = .ok (.iload_n 2, 1) := by decide +kernel
theorem dX8_wantsAfter_50 : decode cX8_wantsAfter 50 = .ok (.invokevirtual 75, 3) := by decide +kernel
theorem dX8_wantsAfter_53 : decode cX8_wantsAfter 53 = .ok (.ireturn, 1) := by decide +kernel
theorem dX8_wantsAfter_54 : decode cX8_wantsAfter 54 = .ok (.iload_n 2, 1) := by decide +kernel
theorem dX8_wantsAfter_55 : decode cX8_wantsAfter 55 = .ok (.bipush 60, 2) := by decide +kernel
theorem dX8_wantsAfter_57 : decode cX8_wantsAfter 57 = .ok (.if_icmp .eq 15, 3) := by decide +kernel
theorem dX8_wantsAfter_60 : decode cX8_wantsAfter 60 = .ok (.iload_n 2, 1) := by decide +kernel
theorem dX8_wantsAfter_61 : decode cX8_wantsAfter 61 = .ok (.bipush 61, 2) := by decide +kernel
theorem dX8_wantsAfter_63 : decode cX8_wantsAfter 63 = .ok (.if_icmp .eq 9, 3) := by decide +kernel
theorem dX8_wantsAfter_66 : decode cX8_wantsAfter 66 = .ok (.iload_n 2, 1) := by decide +kernel
theorem dX8_wantsAfter_67 : decode cX8_wantsAfter 67 = .ok (.bipush 62, 2) := by decide +kernel
theorem dX8_wantsAfter_69 : decode cX8_wantsAfter 69 = .ok (.if_icmp .ne 7, 3) := by decide +kernel
theorem dX8_wantsAfter_72 : decode cX8_wantsAfter 72 = .ok (.iconst 2, 1) := by decide +kernel
theorem dX8_wantsAfter_73 : decode cX8_wantsAfter 73 = .ok (.goto 4, 3) := by decide +kernel
theorem dX8_wantsAfter_76 : decode cX8_wantsAfter 76 = .ok (.iconst 5, 1) := by decide +kernel
theorem dX8_wantsAfter_77 : decode cX8_wantsAfter 77 = .ok (.ireturn, 1) := by decide +kernel
theorem dX8_wantsAfter_78 : decode cX8_wantsAfter 78 = .ok (.aload_n 0, 1) := by decide +kernel
theorem dX8_wantsAfter_79 : decode cX8_wantsAfter 79 = .ok (.iconst 0, 1) := by decide +kernel
theorem dX8_wantsAfter_80 : decode cX8_wantsAfter 80 = .ok (.putfield 25, 3) := by decide +kernel
theorem dX8_wantsAfter_83 : decode cX8_wantsAfter 83 = .ok (.iload_n 2, 1) := by decide +kernel
theorem dX8_wantsAfter_84 : decode cX8_wantsAfter 84 = .ok (.invokestatic 79, 3) := by decide +kernel
theorem dX8_wantsAfter_87 : decode cX8_wantsAfter 87 = .ok (.ifCond .eq 10, 3) := by decide +kernel
theorem dX8_wantsAfter_90 : decode cX8_wantsAfter 90 = .ok (.aload_n 0, 1) := by decide +kernel
theorem dX8_wantsAfter_91 : decode cX8_wantsAfter 91 = .ok (.invokevirtual 82, 3) := by decide +kernel
theorem dX8_wantsAfter_94 : decode cX8_wantsAfter 94 = .ok (.goto 4, 3) := by decide +kernel
theorem dX8_wantsAfter_97 : decode cX8_wantsAfter 97 = .ok (.iconst 5, 1) := by decide +kernel
theorem dX8_wantsAfter_98 : decode cX8_wantsAfter 98 = .ok (.ireturn, 1) := by decide +kernel
theorem dX8_wantsAfter_99 : decode cX8_wantsAfter 99 = .ok (.iload_n 2, 1) := by decide +kernel
theorem dX8_wantsAfter_100 : decode cX8_wantsAfter 100 = .ok (.invokestatic 79, 3) := by decide +kernel
theorem dX8_wantsAfter_103 : decode cX8_wantsAfter 103 = .ok (.ifCond .eq 10, 3) := by decide +kernel
theorem dX8_wantsAfter_106 : decode cX8_wantsAfter 106 = .ok (.aload_n 0, 1) := by decide +kernel
theorem dX8_wantsAfter_107 : decode cX8_wantsAfter 107 = .ok (.invokevirtual 82, 3) := by decide +kernel
theorem dX8_wantsAfter_110 : decode cX8_wantsAfter 110 = .ok (.goto 8, 3) := by decide +kernel
theorem dX8_wantsAfter_113 : decode cX8_wantsAfter 113 = .ok (.aload_n 0, 1) := by decide +kernel
theorem dX8_wantsAfter_114 : decode cX8_wantsAfter 114 = .ok (.iload_n 2, 1) := by decide +kernel
theorem dX8_wantsAfter_115 : decode cX8_wantsAfter 115 = .ok (.invokevirtual 85, 3) := by decide +kernel
theorem dX8_wantsAfter_118 : decode cX8_wantsAfter 118 = .ok (.ireturn, 1) := by decide +kernel
theorem dX8_wantsAfter_119 : decode cX8_wantsAfter 119 = .ok (.aload_n 0, 1) := by decide +kernel
theorem dX8_wantsAfter_120 : decode cX8_wantsAfter 120 = .ok (.iload_n 2, 1) := by decide +kernel
theorem dX8_wantsAfter_121 : decode cX8_wantsAfter 121 = .ok (.invokevirtual 85, 3) := by decide +kernel
theorem dX8_wantsAfter_124 : decode cX8_wantsAfter 124 = .ok (.ireturn, 1) := by decide +kernel
theorem dX8_afterStart_0 : decode cX8_afterStart 0 = .ok (.iload_n 1, 1) := by decide +kernel
theorem dX8_afterStart_1 : decode cX8_afterStart 1 = .ok (.bipush 33, 2) := by decide +kernel
theorem dX8_afterStart_3 : decode cX8_afterStart 3 = .ok (.if_icmp .ne 5, 3) := by decide +kernel
theorem dX8_afterStart_6 : decode cX8_afterStart 6 = .ok (.iconst 0, 1) := by decide +kernel
theorem dX8_afterStart_7 : decode cX8_afterStart 7 = .ok (.ireturn, 1) := by decide +kernel
theorem dX8_afterStart_8 : decode cX8_afterStart 8 = .ok (.iload_n 1, 1) := by decide +kernel
theorem dX8_afterStart_9 : decode cX8_afterStart 9 = .ok (.bipush 40, 2) := by decide +kernel
theorem dX8_afterStart_11 : decode cX8_afterStart 11 = .ok (.if_icmp .ne 15, 3) := by decide +kernel
theorem dX8_afterStart_14 : decode cX8_afterStart 14 = .ok (.aload_n 0, 1) := by decide +kernel
theorem dX8_afterStart_15 : decode cX8_afterStart 15 = .ok (.dup, 1) := by decide +kernel
theorem dX8_afterStart_16 : decode cX8_afterStart 16 = .ok (.getfield 22, 3) := by decide +kernel
theorem dX8_afterStart_19 : decode cX8_afterStart 19 = .ok (.iconst 1, 1) := by decide +kernel
theorem dX8_afterStart_20 : decode cX8_afterStart 20 = .ok (.iadd, 1) := by decide +kernel
theorem dX8_afterStart_21 : decode cX8_afterStart 21 = .ok (.putfield 22, 3) := by decide +kernel
theorem dX8_afterStart_24 : decode cX8_afterStart 24 = .ok (.iconst 0, 1) := by decide +kernel
theorem dX8_afterStart_25 : decode cX8_afterStart 25 = .ok (.ireturn, 1) := by decide +kernel
theorem dX8_afterStart_26 : decode cX8_afterStart 26 = .ok (.iload_n 1, 1) := by decide +kernel
theorem dX8_afterStart_27 : decode cX8_afterStart 27 = .ok (.invokestatic 54, 3) := by decide +kernel
theorem dX8_afterStart_30 : decode cX8_afterStart 30 = .ok (.ifCond .eq 7, 3) := by decide +kernel
theorem dX8_afterStart_33 : decode cX8_afterStart 33 = .ok (.iconst 1, 1) := by decide +kernel
theorem dX8_afterStart_34 : decode cX8_afterStart 34 = .ok (.goto 4, 3) := by decide +kernel
theorem dX8_afterStart_37 : decode cX8_afterStart 37 = .ok (.iconst 5, 1) := by decide +kernel
theorem dX8_afterStart_38 : decode cX8_afterStart 38 = .ok (.ireturn, 1) := by decide +kernel
theorem dX8_afterDigit_0 : decode cX8_afterDigit 0 = .ok (.aload_n 0, 1) := by decide +kernel
theorem dX8_afterDigit_1 : decode cX8_afterDigit 1 = .ok (.dup, 1) := by decide +kernel
theorem dX8_afterDigit_2 : decode cX8_afterDigit 2 = .ok (.getfield 25, 3) := by decide +kernel
theorem dX8_afterDigit_5 : decode cX8_afterDigit 5 = .ok (.iconst 1, 1) := by decide +kernel
theorem dX8_afterDigit_6 : decode cX8_afterDigit 6 = .ok (.iadd, 1) := by decide +kernel
theorem dX8_afterDigit_7 : decode cX8_afterDigit 7 = .ok (.putfield 25, 3) := by decide +kernel
theorem dX8_afterDigit_10 : decode cX8_afterDigit 10 = .ok (.aload_n 0, 1) := by decide +kernel
theorem dX8_afterDigit_11 : decode cX8_afterDigit 11 = .ok (.getfield 25, 3) := by decide +kernel
theorem dX8_afterDigit_14 : decode cX8_afterDigit 14 = .ok (.iconst 5, 1) := by decide +kernel
theorem dX8_afterDigit_15 : decode cX8_afterDigit 15 = .ok (.if_icmp .le 7, 3) := by decide +kernel
theorem dX8_afterDigit_18 : decode cX8_afterDigit 18 = .ok (.iconst 5, 1) := by decide +kernel
theorem dX8_afterDigit_19 : decode cX8_afterDigit 19 = .ok (.goto 4, 3) := by decide +kernel
theorem dX8_afterDigit_22 : decode cX8_afterDigit 22 = .ok (.iconst 3, 1) := by decide +kernel
theorem dX8_afterDigit_23 : decode cX8_afterDigit 23 = .ok (.ireturn, 1) := by decide +kernel
theorem dX8_afterOne_0 : decode cX8_afterOne 0 = .ok (.iload_n 1, 1) := by decide +kernel
theorem dX8_afterOne_1 : decode cX8_afterOne 1 = .ok (.bipush 38, 2) := by decide +kernel
theorem dX8_afterOne_3 : decode cX8_afterOne 3 = .ok (.if_icmp .eq 9, 3) := by decide +kernel
theorem dX8_afterOne_6 : decode cX8_afterOne 6 = .ok (.iload_n 1, 1) := by decide +kernel
theorem dX8_afterOne_7 : decode cX8_afterOne 7 = .ok (.bipush 124, 2) := by decide +kernel
theorem dX8_afterOne_9 : decode cX8_afterOne 9 = .ok (.if_icmp .ne 5, 3) := by decide +kernel
theorem dX8_afterOne_12 : decode cX8_afterOne 12 = .ok (.iconst 0, 1) := by decide +kernel
theorem dX8_afterOne_13 : decode cX8_afterOne 13 = .ok (.ireturn, 1) := by decide +kernel
theorem dX8_afterOne_14 : decode cX8_afterOne 14 = .ok (.iload_n 1, 1) := by decide +kernel
theorem dX8_afterOne_15 : decode cX8_afterOne 15 = .ok (.bipush 41, 2) := by decide +kernel
theorem dX8_afterOne_17 : decode cX8_afterOne 17 = .ok (.if_icmp .ne 22, 3) := by decide +kernel
theorem dX8_afterOne_20 : decode cX8_afterOne 20 = .ok (.aload_n 0, 1) := by decide +kernel
theorem dX8_afterOne_21 : decode cX8_afterOne 21 = .ok (.getfield 22, 3) := by decide +kernel
theorem dX8_afterOne_24 : decode cX8_afterOne 24 = .ok (.ifCond .le 15, 3) := by decide +kernel
theorem dX8_afterOne_27 : decode cX8_afterOne 27 = .ok (.aload_n 0, 1) := by decide +kernel
theorem dX8_afterOne_28 : decode cX8_afterOne 28 = .ok (.dup, 1) := by decide +kernel
theorem dX8_afterOne_29 : decode cX8_afterOne 29 = .ok (.getfield 22, 3) := by decide +kernel
theorem dX8_afterOne_32 : decode cX8_afterOne 32 = .ok (.iconst 1, 1) := by decide +kernel
theorem dX8_afterOne_33 : decode cX8_afterOne 33 = .ok (.isub, 1) := by decide +kernel
theorem dX8_afterOne_34 : decode cX8_afterOne 34 = .ok (.putfield 22, 3) := by decide +kernel
theorem dX8_afterOne_37 : decode cX8_afterOne 37 = .ok (.iconst 4, 1) := by decide +kernel
theorem dX8_afterOne_38 : decode cX8_afterOne 38 = .ok (.ireturn, 1) := by decide +kernel
theorem dX8_afterOne_39 : decode cX8_afterOne 39 = .ok (.iconst 5, 1) := by decide +kernel
theorem dX8_afterOne_40 : decode cX8_afterOne 40 = .ok (.ireturn, 1) := by decide +kernel
theorem dX8_compares_0 : decode cX8_compares 0 = .ok (.aload_n 2, 1) := by decide +kernel
theorem dX8_compares_1 : decode cX8_compares 1 = .ok (.aload_n 0, 1) := by decide +kernel
theorem dX8_compares_2 : decode cX8_compares 2 = .ok (.getfield 18, 3) := by decide +kernel
theorem dX8_compares_5 : decode cX8_compares 5 = .ok (.iload_n 1, 1) := by decide +kernel
theorem dX8_compares_6 : decode cX8_compares 6 = .ok (.baload, 1) := by decide +kernel
theorem dX8_compares_7 : decode cX8_compares 7 = .ok (.iload_n 3, 1) := by decide +kernel
theorem dX8_compares_8 : decode cX8_compares 8 = .ok (.invokevirtual 88, 3) := by decide +kernel
theorem dX8_compares_11 : decode cX8_compares 11 = .ok (.lstore 4, 2) := by decide +kernel
theorem dX8_compares_13 : decode cX8_compares 13 = .ok (.iconst 0, 1) := by decide +kernel
theorem dX8_compares_14 : decode cX8_compares 14 = .ok (.istore 6, 2) := by decide +kernel
theorem dX8_compares_16 : decode cX8_compares 16 = .ok (.iconst 0, 1) := by decide +kernel
theorem dX8_compares_17 : decode cX8_compares 17 = .ok (.istore 7, 2) := by decide +kernel
theorem dX8_compares_19 : decode cX8_compares 19 = .ok (.iload_n 1, 1) := by decide +kernel
theorem dX8_compares_20 : decode cX8_compares 20 = .ok (.iconst 1, 1) := by decide +kernel
theorem dX8_compares_21 : decode cX8_compares 21 = .ok (.iadd, 1) := by decide +kernel
theorem dX8_compares_22 : decode cX8_compares 22 = .ok (.istore 8, 2) := by decide +kernel
theorem dX8_compares_24 : decode cX8_compares 24 = .ok (.iload 8, 2) := by decide +kernel
theorem dX8_compares_26 : decode cX8_compares 26 = .ok (.aload_n 0, 1) := by decide +kernel
theorem dX8_compares_27 : decode cX8_compares 27 = .ok (.getfield 9, 3) := by decide +kernel
theorem dX8_compares_30 : decode cX8_compares 30 = .ok (.if_icmp .ge 77, 3) := by decide +kernel
theorem dX8_compares_33 : decode cX8_compares 33 = .ok (.aload_n 0, 1) := by decide +kernel
theorem dX8_compares_34 : decode cX8_compares 34 = .ok (.getfield 18, 3) := by decide +kernel
theorem dX8_compares_37 : decode cX8_compares 37 = .ok (.iload 8, 2) := by decide +kernel
theorem dX8_compares_39 : decode cX8_compares 39 = .ok (.baload, 1) := by decide +kernel
theorem dX8_compares_40 : decode cX8_compares 40 = .ok (.invokestatic 94, 3) := by decide +kernel
theorem dX8_compares_43 : decode cX8_compares 43 = .ok (.ifCond .ne 64, 3) := by decide +kernel
theorem dX8_compares_46 : decode cX8_compares 46 = .ok (.aload_n 0, 1) := by decide +kernel
theorem dX8_compares_47 : decode cX8_compares 47 = .ok (.getfield 18, 3) := by decide +kernel
theorem dX8_compares_50 : decode cX8_compares 50 = .ok (.iload 8, 2) := by decide +kernel
theorem dX8_compares_52 : decode cX8_compares 52 = .ok (.baload, 1) := by decide +kernel
theorem dX8_compares_53 : decode cX8_compares 53 = .ok (.invokestatic 79, 3) := by decide +kernel
theorem dX8_compares_56 : decode cX8_compares 56 = .ok (.ifCond .eq 24, 3) := by decide +kernel
theorem dX8_compares_59 : decode cX8_compares 59 = .ok (.iload 7, 2) := by decide +kernel
theorem dX8_compares_61 : decode cX8_compares 61 = .ok (.bipush 10, 2) := by decide +kernel
theorem dX8_compares_63 : decode cX8_compares 63 = .ok (.imul, 1) := by decide +kernel
theorem dX8_compares_64 : decode cX8_compares 64 = .ok (.aload_n 0, 1) := by decide +kernel
theorem dX8_compares_65 : decode cX8_compares 65 = .ok (.getfield 18, 3) := by decide +kernel
theorem dX8_compares_68 : decode cX8_compares 68 = .ok (.iload 8, 2) := by decide +kernel
theorem dX8_compares_70 : decode cX8_compares 70 = .ok (.baload, 1) := by decide +kernel
theorem dX8_compares_71 : decode cX8_compares 71 = .ok (.iadd, 1) := by decide +kernel
theorem dX8_compares_72 : decode cX8_compares 72 = .ok (.bipush 48, 2) := by decide +kernel
theorem dX8_compares_74 : decode cX8_compares 74 = .ok (.isub, 1) := by decide +kernel
theorem dX8_compares_75 : decode cX8_compares 75 = .ok (.istore 7, 2) := by decide +kernel
theorem dX8_compares_77 : decode cX8_compares 77 = .ok (.goto 24, 3) := by decide +kernel
theorem dX8_compares_80 : decode cX8_compares 80 = .ok (.aload_n 0, 1) := by decide +kernel
theorem dX8_compares_81 : decode cX8_compares 81 = .ok (.getfield 18, 3) := by decide +kernel
theorem dX8_compares_84 : decode cX8_compares 84 = .ok (.iload 8, 2) := by decide +kernel
theorem dX8_compares_86 : decode cX8_compares 86 = .ok (.baload, 1) := by decide +kernel
theorem dX8_compares_87 : decode cX8_compares 87 = .ok (.bipush 32, 2) := by decide +kernel
theorem dX8_compares_89 : decode cX8_compares 89 = .ok (.if_icmp .eq 12, 3) := by decide +kernel
theorem dX8_compares_92 : decode cX8_compares 92 = .ok (.aload_n 0, 1) := by decide +kernel
theorem dX8_compares_93 : decode cX8_compares 93 = .ok (.getfield 18, 3) := by decide +kernel
theorem dX8_compares_96 : decode cX8_compares 96 = .ok (.iload 8, 2) := by decide +kernel
theorem dX8_compares_98 : decode cX8_compares 98 = .ok (.baload, 1) := by decide +kernel
theorem dX8_compares_99 : decode cX8_compares 99 = .ok (.istore 6, 2) := by decide +kernel
theorem dX8_compares_101 : decode cX8_compares 101 = .ok (.iinc 8 1, 3) := by decide +kernel
theorem dX8_compares_104 : decode cX8_compares 104 = .ok (.goto (-80), 3) := by decide +kernel
theorem dX8_compares_107 : decode cX8_compares 107 = .ok (.iload 6, 2) := by decide +kernel
theorem dX8_compares_109 : decode cX8_compares 109 = .ok (.bipush 60, 2) := by decide +kernel
theorem dX8_compares_111 : decode cX8_compares 111 = .ok (.if_icmp .ne 18, 3) := by decide +kernel
theorem dX8_compares_114 : decode cX8_compares 114 = .ok (.lload 4, 2) := by decide +kernel
theorem dX8_compares_116 : decode cX8_compares 116 = .ok (.iload 7, 2) := by decide +kernel
theorem dX8_compares_118 : decode cX8_compares 118 = .ok (.i2l, 1) := by decide +kernel
theorem dX8_compares_119 : decode cX8_compares 119 = .ok (.lcmp, 1) := by decide +kernel
theorem dX8_compares_120 : decode cX8_compares 120 = .ok (.ifCond .ge 7, 3) := by decide +kernel
theorem dX8_compares_123 : decode cX8_compares 123 = .ok (.iconst 1, 1) := by decide +kernel
theorem dX8_compares_124 : decode cX8_compares 124 = .ok (.goto 4, 3) := by decide +kernel
theorem dX8_compares_127 : decode cX8_compares 127 = .ok (.iconst 0, 1) := by decide +kernel
theorem dX8_compares_128 : decode cX8_compares 128 = .ok (.ireturn, 1) := by decide +kernel
theorem dX8_compares_129 : decode cX8_compares 129 = .ok (.iload 6, 2) := by decide +kernel
theorem dX8_compares_131 : decode cX8_compares 131 = .ok (.bipush 62, 2) := by decide +kernel
theorem dX8_compares_133 : decode cX8_compares 133 = .ok (.if_icmp .ne 20, 3) := by decide +kernel
theorem dX8_compares_136 : decode cX8_compares 136 = .ok (.lload 4, 2) := by decide +kernel
theorem dX8_compares_138 : decode cX8_compares 138 = .ok (.iload 7, 2) := by decide +kernel
theorem dX8_compares_140 : decode cX8_compares 140 = .ok (.i2l, 1) := by decide +kernel
theorem dX8_compares_141 : decode cX8_compares 141 = .ok (.lcmp, 1) := by decide +kernel
theorem dX8_compares_142 : decode cX8_compares 142 = .ok (.ifCond .le 7, 3) := by decide +kernel
theorem dX8_compares_145 : decode cX8_compares 145 = .ok (.iconst 1, 1) := by decide +kernel
theorem dX8_compares_146 : decode cX8_compares 146 = .ok (.goto 21, 3) := by decide +kernel
theorem dX8_compares_149 : decode cX8_compares 149 = .ok (.iconst 0, 1) := by decide +kernel
theorem dX8_compares_150 : decode cX8_compares 150 = .ok (.goto 17, 3) := by decide +kernel
theorem dX8_compares_153 : decode cX8_compares 153 = .ok (.lload 4, 2) := by decide +kernel
theorem dX8_compares_155 : decode cX8_compares 155 = .ok (.iload 7, 2) := by decide +kernel
theorem dX8_compares_157 : decode cX8_compares 157 = .ok (.i2l, 1) := by decide +kernel
theorem dX8_compares_158 : decode cX8_compares 158 = .ok (.lcmp, 1) := by decide +kernel
theorem dX8_compares_159 : decode cX8_compares 159 = .ok (.ifCond .ne 7, 3) := by decide +kernel
theorem dX8_compares_162 : decode cX8_compares 162 = .ok (.iconst 1, 1) := by decide +kernel
theorem dX8_compares_163 : decode cX8_compares 163 = .ok (.goto 4, 3) := by decide +kernel
theorem dX8_compares_166 : decode cX8_compares 166 = .ok (.iconst 0, 1) := by decide +kernel
theorem dX8_compares_167 : decode cX8_compares 167 = .ok (.ireturn, 1) := by decide +kernel
theorem dX8_isEndOfOne_0 : decode cX8_isEndOfOne 0 = .ok (.iload_n 0, 1) := by decide +kernel
theorem dX8_isEndOfOne_1 : decode cX8_isEndOfOne 1 = .ok (.bipush 38, 2) := by decide +kernel
theorem dX8_isEndOfOne_3 : decode cX8_isEndOfOne 3 = .ok (.if_icmp .eq 15, 3) := by decide +kernel
theorem dX8_isEndOfOne_6 : decode cX8_isEndOfOne 6 = .ok (.iload_n 0, 1) := by decide +kernel
theorem dX8_isEndOfOne_7 : decode cX8_isEndOfOne 7 = .ok (.bipush 124, 2) := by decide +kernel
theorem dX8_isEndOfOne_9 : decode cX8_isEndOfOne 9 = .ok (.if_icmp .eq 9, 3) := by decide +kernel
theorem dX8_isEndOfOne_12 : decode cX8_isEndOfOne 12 = .ok (.iload_n 0, 1) := by decide +kernel
theorem dX8_isEndOfOne_13 : decode cX8_isEndOfOne 13 = .ok (.bipush 41, 2) := by decide +kernel
theorem dX8_isEndOfOne_15 : decode cX8_isEndOfOne 15 = .ok (.if_icmp .ne 7, 3) := by decide +kernel
theorem dX8_isEndOfOne_18 : decode cX8_isEndOfOne 18 = .ok (.iconst 1, 1) := by decide +kernel
theorem dX8_isEndOfOne_19 : decode cX8_isEndOfOne 19 = .ok (.goto 4, 3) := by decide +kernel
theorem dX8_isEndOfOne_22 : decode cX8_isEndOfOne 22 = .ok (.iconst 0, 1) := by decide +kernel
theorem dX8_isEndOfOne_23 : decode cX8_isEndOfOne 23 = .ok (.ireturn, 1) := by decide +kernel
theorem dX8_isDigit_0 : decode cX8_isDigit 0 = .ok (.iload_n 0, 1) := by decide +kernel
theorem dX8_isDigit_1 : decode cX8_isDigit 1 = .ok (.bipush 48, 2) := by decide +kernel
theorem dX8_isDigit_3 : decode cX8_isDigit 3 = .ok (.if_icmp .lt 13, 3) := by decide +kernel
theorem dX8_isDigit_6 : decode cX8_isDigit 6 = .ok (.iload_n 0, 1) := by decide +kernel
theorem dX8_isDigit_7 : decode cX8_isDigit 7 = .ok (.bipush 57, 2) := by decide +kernel
theorem dX8_isDigit_9 : decode cX8_isDigit 9 = .ok (.if_icmp .gt 7, 3) := by decide +kernel
theorem dX8_isDigit_12 : decode cX8_isDigit 12 = .ok (.iconst 1, 1) := by decide +kernel
theorem dX8_isDigit_13 : decode cX8_isDigit 13 = .ok (.goto 4, 3) := by decide +kernel
theorem dX8_isDigit_16 : decode cX8_isDigit 16 = .ok (.iconst 0, 1) := by decide +kernel
theorem dX8_isDigit_17 : decode cX8_isDigit 17 = .ok (.ireturn, 1) := by decide +kernel
theorem dX8_isLetter_0 : decode cX8_isLetter 0 = .ok (.iload_n 0, 1) := by decide +kernel
theorem dX8_isLetter_1 : decode cX8_isLetter 1 = .ok (.bipush 97, 2) := by decide +kernel
theorem dX8_isLetter_3 : decode cX8_isLetter 3 = .ok (.if_icmp .eq 27, 3) := by decide +kernel
theorem dX8_isLetter_6 : decode cX8_isLetter 6 = .ok (.iload_n 0, 1) := by decide +kernel
theorem dX8_isLetter_7 : decode cX8_isLetter 7 = .ok (.bipush 100, 2) := by decide +kernel
theorem dX8_isLetter_9 : decode cX8_isLetter 9 = .ok (.if_icmp .eq 21, 3) := by decide +kernel
theorem dX8_isLetter_12 : decode cX8_isLetter 12 = .ok (.iload_n 0, 1) := by decide +kernel
theorem dX8_isLetter_13 : decode cX8_isLetter 13 = .ok (.bipush 111, 2) := by decide +kernel
theorem dX8_isLetter_15 : decode cX8_isLetter 15 = .ok (.if_icmp .eq 15, 3) := by decide +kernel
theorem dX8_isLetter_18 : decode cX8_isLetter 18 = .ok (.iload_n 0, 1) := by decide +kernel
theorem dX8_isLetter_19 : decode cX8_isLetter 19 = .ok (.bipush 109, 2) := by decide +kernel
theorem dX8_isLetter_21 : decode cX8_isLetter 21 = .ok (.if_icmp .eq 9, 3) := by decide +kernel
theorem dX8_isLetter_24 : decode cX8_isLetter 24 = .ok (.iload_n 0, 1) := by decide +kernel
theorem dX8_isLetter_25 : decode cX8_isLetter 25 = .ok (.bipush 119, 2) := by decide +kernel
theorem dX8_isLetter_27 : decode cX8_isLetter 27 = .ok (.if_icmp .ne 7, 3) := by decide +kernel
theorem dX8_isLetter_30 : decode cX8_isLetter 30 = .ok (.iconst 1, 1) := by decide +kernel
theorem dX8_isLetter_31 : decode cX8_isLetter 31 = .ok (.goto 4, 3) := by decide +kernel
theorem dX8_isLetter_34 : decode cX8_isLetter 34 = .ok (.iconst 0, 1) := by decide +kernel
theorem dX8_isLetter_35 : decode cX8_isLetter 35 = .ok (.ireturn, 1) := by decide +kernel
theorem dX9_init_0 : decode cX9_init 0 = .ok (.aload_n 0, 1) := by decide +kernel
theorem dX9_init_1 : decode cX9_init 1 = .ok (.invokespecial 1, 3) := by decide +kernel
theorem dX9_init_4 : decode cX9_init 4 = .ok (.aload_n 0, 1) := by decide +kernel
theorem dX9_init_5 : decode cX9_init 5 = .ok (.lconst 0, 1) := by decide +kernel
theorem dX9_init_6 : decode cX9_init 6 = .ok (.putfield 7, 3) := by decide +kernel
theorem dX9_init_9 : decode cX9_init 9 = .ok (.aload_n 0, 1) := by decide +kernel
theorem dX9_init_10 : decode cX9_init 10 = .ok (.lconst 0, 1) := by decide +kernel
theorem dX9_init_11 : decode cX9_init 11 = .ok (.putfield 13, 3) := by decide +kernel
theorem dX9_init_14 : decode cX9_init 14 = .ok (.aload_n 0, 1) := by decide +kernel
theorem dX9_init_15 : decode cX9_init 15 = .ok (.lconst 0, 1) := by decide +kernel
theorem dX9_init_16 : decode cX9_init 16 = .ok (.putfield 16, 3) := by decide +kernel
theorem dX9_init_19 : decode cX9_init 19 = .ok (.aload_n 0, 1) := by decide +kernel
theorem dX9_init_20 : decode cX9_init 20 = .ok (.iconst 0, 1) := by decide +kernel
theorem dX9_init_21 : decode cX9_init 21 = .ok (.putfield 19, 3) := by decide +kernel
theorem dX9_init_24 : decode cX9_init 24 = .ok (.return_, 1) := by decide +kernel
theorem dX9_begin_0 : decode cX9_begin 0 = .ok (.aload_n 0, 1) := by decide +kernel
theorem dX9_begin_1 : decode cX9_begin 1 = .ok (.lconst 0, 1) := by decide +kernel
theorem dX9_begin_2 : decode cX9_begin 2 = .ok (.putfield 7, 3) := by decide +kernel
theorem dX9_begin_5 : decode cX9_begin 5 = .ok (.aload_n 0, 1) := by decide +kernel
theorem dX9_begin_6 : decode cX9_begin 6 = .ok (.lconst 1, 1) := by decide +kernel
theorem dX9_begin_7 : decode cX9_begin 7 = .ok (.putfield 13, 3) := by decide +kernel
theorem dX9_begin_10 : decode cX9_begin 10 = .ok (.aload_n 0, 1) := by decide +kernel
theorem dX9_begin_11 : decode cX9_begin 11 = .ok (.lconst 0, 1) := by decide +kernel
theorem dX9_begin_12 : decode cX9_begin 12 = .ok (.putfield 16, 3) := by decide +kernel
theorem dX9_begin_15 : decode cX9_begin 15 = .ok (.aload_n 0, 1) := by decide +kernel
theorem dX9_begin_16 : decode cX9_begin 16 = .ok (.iconst 0, 1) := by decide +kernel
theorem dX9_begin_17 : decode cX9_begin 17 = .ok (.putfield 19, 3) := by decide +kernel
theorem dX9_begin_20 : decode cX9_begin 20 = .ok (.return_, 1) := by decide +kernel
theorem dX9_negate_0 : decode cX9_negate 0 = .ok (.aload_n 0, 1) := by decide +kernel
theorem dX9_negate_1 : decode cX9_negate 1 = .ok (.dup, 1) := by decide +kernel
theorem dX9_negate_2 : decode cX9_negate 2 = .ok (.getfield 16, 3) := by decide +kernel
theorem dX9_negate_5 : decode cX9_negate 5 = .ok (.lconst 1, 1) := by decide +kernel
theorem dX9_negate_6 : decode cX9_negate 6 = .ok (.aload_n 0, 1) := by decide +kernel
theorem dX9_negate_7 : decode cX9_negate 7 = .ok (.getfield 19, 3) := by decide +kernel
theorem dX9_negate_10 : decode cX9_negate 10 = .ok (.lshl, 1) := by decide +kernel
theorem dX9_negate_11 : decode cX9_negate 11 = .ok (.lxor, 1) := by decide +kernel
theorem dX9_negate_12 : decode cX9_negate 12 = .ok (.putfield 16, 3) := by decide +kernel
theorem dX9_negate_15 : decode cX9_negate 15 = .ok (.return_, 1) := by decide +kernel
theorem dX9_beginAll_0 : decode cX9_beginAll 0 = .ok (.aload_n 0, 1) := by decide +kernel
theorem dX9_beginAll_1 : decode cX9_beginAll 1 = .ok (.dup, 1) := by decide +kernel
theorem dX9_beginAll_2 : decode cX9_beginAll 2 = .ok (.getfield 7, 3) := by decide +kernel
theorem dX9_beginAll_5 : decode cX9_beginAll 5 = .ok (.aload_n 0, 1) := by decide +kernel
theorem dX9_beginAll_6 : decode cX9_beginAll 6 = .ok (.getfield 13, 3) := by decide +kernel
theorem dX9_beginAll_9 : decode cX9_beginAll 9 = .ok (.lconst 1, 1) := by decide +kernel
theorem dX9_beginAll_10 : decode cX9_beginAll 10 = .ok (.aload_n 0, 1) := by decide +kernel
theorem dX9_beginAll_11 : decode cX9_beginAll 11 = .ok (.getfield 19, 3) := by decide +kernel
theorem dX9_beginAll_14 : decode cX9_beginAll 14 = .ok (.lshl, 1) := by decide +kernel
theorem dX9_beginAll_15 : decode cX9_beginAll 15 = .ok (.land, 1) := by decide +kernel
theorem dX9_beginAll_16 : decode cX9_beginAll 16 = .ok (.lor, 1) := by decide +kernel
theorem dX9_beginAll_17 : decode cX9_beginAll 17 = .ok (.putfield 7, 3) := by decide +kernel
theorem dX9_beginAll_20 : decode cX9_beginAll 20 = .ok (.aload_n 0, 1) := by decide +kernel
theorem dX9_beginAll_21 : decode cX9_beginAll 21 = .ok (.dup, 1) := by decide +kernel
theorem dX9_beginAll_22 : decode cX9_beginAll 22 = .ok (.getfield 13, 3) := by decide +kernel
theorem dX9_beginAll_25 : decode cX9_beginAll 25 = .ok (.lconst 1, 1) := by decide +kernel
theorem dX9_beginAll_26 : decode cX9_beginAll 26 = .ok (.aload_n 0, 1) := by decide +kernel
theorem dX9_beginAll_27 : decode cX9_beginAll 27 = .ok (.getfield 19, 3) := by decide +kernel
theorem dX9_beginAll_30 : decode cX9_beginAll 30 = .ok (.lshl, 1) := by decide +kernel
theorem dX9_beginAll_31 : decode cX9_beginAll 31 = .ok (.lor, 1) := by decide +kernel
theorem dX9_beginAll_32 : decode cX9_beginAll 32 = .ok (.putfield 13, 3) := by decide +kernel
theorem dX9_beginAll_35 : decode cX9_beginAll 35 = .ok (.return_, 1) := by decide +kernel
theorem dX9_enter_0 : decode cX9_enter 0 = .ok (.aload_n 0, 1) := by decide +kernel
theorem dX9_enter_1 : decode cX9_enter 1 = .ok (.dup, 1) := by decide +kernel
theorem dX9_enter_2 : decode cX9_enter 2 = .ok (.getfield 19, 3) := by decide +kernel
theorem dX9_enter_5 : decode cX9_enter 5 = .ok (.iconst 1, 1) := by decide +kernel
theorem dX9_enter_6 : decode cX9_enter 6 = .ok (.iadd, 1) := by decide +kernel
theorem dX9_enter_7 : decode cX9_enter 7 = .ok (.putfield 19, 3) := by decide +kernel
theorem dX9_enter_10 : decode cX9_enter 10 = .ok (.aload_n 0, 1) := by decide +kernel
theorem dX9_enter_11 : decode cX9_enter 11 = .ok (.dup, 1) := by decide +kernel
theorem dX9_enter_12 : decode cX9_enter 12 = .ok (.getfield 7, 3) := by decide +kernel
theorem dX9_enter_15 : decode cX9_enter 15 = .ok (.lconst 1, 1) := by decide +kernel
theorem dX9_enter_16 : decode cX9_enter 16 = .ok (.aload_n 0, 1) := by decide +kernel
theorem dX9_enter_17 : decode cX9_enter 17 = .ok (.getfield 19, 3) := by decide +kernel
theorem dX9_enter_20 : decode cX9_enter 20 = .ok (.lshl, 1) := by decide +kernel
theorem dX9_enter_21 : decode cX9_enter 21 = .ok (.ldc2_w 23, 3) := by decide +kernel
theorem dX9_enter_24 : decode cX9_enter 24 = .ok (.lxor, 1) := by decide +kernel
theorem dX9_enter_25 : decode cX9_enter 25 = .ok (.land, 1) := by decide +kernel
theorem dX9_enter_26 : decode cX9_enter 26 = .ok (.putfield 7, 3) := by decide +kernel
theorem dX9_enter_29 : decode cX9_enter 29 = .ok (.aload_n 0, 1) := by decide +kernel
theorem dX9_enter_30 : decode cX9_enter 30 = .ok (.dup, 1) := by decide +kernel
theorem dX9_enter_31 : decode cX9_enter 31 = .ok (.getfield 13, 3) := by decide +kernel
theorem dX9_enter_34 : decode cX9_enter 34 = .ok (.lconst 1, 1) := by decide +kernel
theorem dX9_enter_35 : decode cX9_enter 35 = .ok (.aload_n 0, 1) := by decide +kernel
theorem dX9_enter_36 : decode cX9_enter 36 = .ok (.getfield 19, 3) := by decide +kernel
theorem dX9_enter_39 : decode cX9_enter 39 = .ok (.lshl, 1) := by decide +kernel
theorem dX9_enter_40 : decode cX9_enter 40 = .ok (.lor, 1) := by decide +kernel
theorem dX9_enter_41 : decode cX9_enter 41 = .ok (.putfield 13, 3) := by decide +kernel
theorem dX9_enter_44 : decode cX9_enter 44 = .ok (.return_, 1) := by decide +kernel
theorem dX9_leave_0 : decode cX9_leave 0 = .ok (.aload_n 0, 1) := by decide +kernel
theorem dX9_leave_1 : decode cX9_leave 1 = .ok (.invokevirtual 25, 3) := by decide +kernel
theorem dX9_leave_4 : decode cX9_leave 4 = .ok (.istore_n 1, 1) := by decide +kernel
theorem dX9_leave_5 : decode cX9_leave 5 = .ok (.aload_n 0, 1) := by decide +kernel
theorem dX9_leave_6 : decode cX9_leave 6 = .ok (.dup, 1) := by decide +kernel
theorem dX9_leave_7 : decode cX9_leave 7 = .ok (.getfield 19, 3) := by decide +kernel
theorem dX9_leave_10 : decode cX9_leave 10 = .ok (.iconst 1, 1) := by decide +kernel
theorem dX9_leave_11 : decode cX9_leave 11 = .ok (.isub, 1) := by decide +kernel
theorem dX9_leave_12 : decode cX9_leave 12 = .ok (.putfield 19, 3) := by decide +kernel
theorem dX9_leave_15 : decode cX9_leave 15 = .ok (.aload_n 0, 1) := by decide +kernel
theorem dX9_leave_16 : decode cX9_leave 16 = .ok (.iload_n 1, 1) := by decide +kernel
theorem dX9_leave_17 : decode cX9_leave 17 = .ok (.invokevirtual 29, 3) := by decide +kernel
theorem dX9_leave_20 : decode cX9_leave 20 = .ok (.return_, 1) := by decide +kernel
theorem dX9_take_0 : decode cX9_take 0 = .ok (.aload_n 0, 1) := by decide +kernel
theorem dX9_take_1 : decode cX9_take 1 = .ok (.getfield 16, 3) := by decide +kernel
theorem dX9_take_4 : decode cX9_take 4 = .ok (.aload_n 0, 1) := by decide +kernel
theorem dX9_take_5 : decode cX9_take 5 = .ok (.getfield 19, 3) := by decide +kernel
theorem dX9_take_8 : decode cX9_take 8 = .ok (.lshr, 1) := by decide +kernel
theorem dX9_take_9 : decode cX9_take 9 = .ok (.lconst 1, 1) := by decide +kernel
theorem dX9_take_10 : decode cX9_take 10 = .ok (.land, 1) := by decide +kernel
theorem dX9_take_11 : decode cX9_take 11 = .ok (.lconst 0, 1) := by decide +kernel
theorem dX9_take_12 : decode cX9_take 12 = .ok (.lcmp, 1) := by decide +kernel
theorem dX9_take_13 : decode cX9_take 13 = .ok (.ifCond .eq 7, 3) := by decide +kernel
theorem dX9_take_16 : decode cX9_take 16 = .ok (.iconst 1, 1) := by decide +kernel
theorem dX9_take_17 : decode cX9_take 17 = .ok (.goto 4, 3) := by decide +kernel
theorem dX9_take_20 : decode cX9_take 20 = .ok (.iconst 0, 1) := by decide +kernel
theorem dX9_take_21 : decode cX9_take 21 = .ok (.istore_n 2, 1) := by decide +kernel
theorem dX9_take_22 : decode cX9_take 22 = .ok (.iload_n 1, 1) := by decide +kernel
theorem dX9_take_23 : decode cX9_take 23 = .ok (.iload_n 2, 1) := by decide +kernel
theorem dX9_take_24 : decode cX9_take 24 = .ok (.if_icmp .ne 22, 3) := by decide +kernel
theorem dX9_take_27 : decode cX9_take 27 = .ok (.aload_n 0, 1) := by decide +kernel
theorem dX9_take_28 : decode cX9_take 28 = .ok (.dup, 1) := by decide +kernel
theorem dX9_take_29 : decode cX9_take 29 = .ok (.getfield 13, 3) := by decide +kernel
theorem dX9_take_32 : decode cX9_take 32 = .ok (.lconst 1, 1) := by decide +kernel
theorem dX9_take_33 : decode cX9_take 33 = .ok (.aload_n 0, 1) := by decide +kernel
theorem dX9_take_34 : decode cX9_take 34 = .ok (.getfield 19, 3) := by decide +kernel
theorem dX9_take_37 : decode cX9_take 37 = .ok (.lshl, 1) := by decide +kernel
theorem dX9_take_38 : decode cX9_take 38 = .ok (.ldc2_w 23, 3) := by decide +kernel
theorem dX9_take_41 : decode cX9_take 41 = .ok (.lxor, 1) := by decide +kernel
theorem dX9_take_42 : decode cX9_take 42 = .ok (.land, 1) := by decide +kernel
theorem dX9_take_43 : decode cX9_take 43 = .ok (.putfield 13, 3) := by decide +kernel
theorem dX9_take_46 : decode cX9_take 46 = .ok (.aload_n 0, 1) := by decide +kernel
theorem dX9_take_47 : decode cX9_take 47 = .ok (.dup, 1) := by decide +kernel
theorem dX9_take_48 : decode cX9_take 48 = .ok (.getfield 16, 3) := by decide +kernel
theorem dX9_take_51 : decode cX9_take 51 = .ok (.lconst 1, 1) := by decide +kernel
theorem dX9_take_52 : decode cX9_take 52 = .ok (.aload_n 0, 1) := by decide +kernel
theorem dX9_take_53 : decode cX9_take 53 = .ok (.getfield 19, 3) := by decide +kernel
theorem dX9_take_56 : decode cX9_take 56 = .ok (.lshl, 1) := by decide +kernel
theorem dX9_take_57 : decode cX9_take 57 = .ok (.ldc2_w 23, 3) := by decide +kernel
theorem dX9_take_60 : decode cX9_take 60 = .ok (.lxor, 1) := by decide +kernel
theorem dX9_take_61 : decode cX9_take 61 = .ok (.land, 1) := by decide +kernel
theorem dX9_take_62 : decode cX9_take 62 = .ok (.putfield 16, 3) := by decide +kernel
theorem dX9_take_65 : decode cX9_take 65 = .ok (.return_, 1) := by decide +kernel
theorem dX9_isTrue_0 : decode cX9_isTrue 0 = .ok (.aload_n 0, 1) := by decide +kernel
theorem dX9_isTrue_1 : decode cX9_isTrue 1 = .ok (.getfield 7, 3) := by decide +kernel
theorem dX9_isTrue_4 : decode cX9_isTrue 4 = .ok (.aload_n 0, 1) := by decide +kernel
theorem dX9_isTrue_5 : decode cX9_isTrue 5 = .ok (.getfield 13, 3) := by decide +kernel
theorem dX9_isTrue_8 : decode cX9_isTrue 8 = .ok (.lor, 1) := by decide +kernel
theorem dX9_isTrue_9 : decode cX9_isTrue 9 = .ok (.aload_n 0, 1) := by decide +kernel
theorem dX9_isTrue_10 : decode cX9_isTrue 10 = .ok (.getfield 19, 3) := by decide +kernel
theorem dX9_isTrue_13 : decode cX9_isTrue 13 = .ok (.lshr, 1) := by decide +kernel
theorem dX9_isTrue_14 : decode cX9_isTrue 14 = .ok (.lconst 1, 1) := by decide +kernel
theorem dX9_isTrue_15 : decode cX9_isTrue 15 = .ok (.land, 1) := by decide +kernel
theorem dX9_isTrue_16 : decode cX9_isTrue 16 = .ok (.lconst 0, 1) := by decide +kernel
theorem dX9_isTrue_17 : decode cX9_isTrue 17 = .ok (.lcmp, 1) := by decide +kernel
theorem dX9_isTrue_18 : decode cX9_isTrue 18 = .ok (.ifCond .eq 7, 3) := by decide +kernel
theorem dX9_isTrue_21 : decode cX9_isTrue 21 = .ok (.iconst 1, 1) := by decide +kernel
theorem dX9_isTrue_22 : decode cX9_isTrue 22 = .ok (.goto 4, 3) := by decide +kernel
theorem dX9_isTrue_25 : decode cX9_isTrue 25 = .ok (.iconst 0, 1) := by decide +kernel
theorem dX9_isTrue_26 : decode cX9_isTrue 26 = .ok (.ireturn, 1) := by decide +kernel
theorem dX10_init_0 : decode cX10_init 0 = .ok (.aload_n 0, 1) := by decide +kernel
theorem dX10_init_1 : decode cX10_init 1 = .ok (.invokespecial 1, 3) := by decide +kernel
theorem dX10_init_4 : decode cX10_init 4 = .ok (.aload_n 0, 1) := by decide +kernel
theorem dX10_init_5 : decode cX10_init 5 = .ok (.new 7, 3) := by decide +kernel
theorem dX10_init_8 : decode cX10_init 8 = .ok (.dup, 1) := by decide +kernel
theorem dX10_init_9 : decode cX10_init 9 = .ok (.invokespecial 9, 3) := by decide +kernel
theorem dX10_init_12 : decode cX10_init 12 = .ok (.putfield 10, 3) := by decide +kernel
theorem dX10_init_15 : decode cX10_init 15 = .ok (.aload_n 0, 1) := by decide +kernel
theorem dX10_init_16 : decode cX10_init 16 = .ok (.new 16, 3) := by decide +kernel
theorem dX10_init_19 : decode cX10_init 19 = .ok (.dup, 1) := by decide +kernel
theorem dX10_init_20 : decode cX10_init 20 = .ok (.invokespecial 18, 3) := by decide +kernel
theorem dX10_init_23 : decode cX10_init 23 = .ok (.putfield 19, 3) := by decide +kernel
theorem dX10_init_26 : decode cX10_init 26 = .ok (.aload_n 0, 1) := by decide +kernel
theorem dX10_init_27 : decode cX10_init 27 = .ok (.new 23, 3) := by decide +kernel
theorem dX10_init_30 : decode cX10_init 30 = .ok (.dup, 1) := by decide +kernel
theorem dX10_init_31 : decode cX10_init 31 = .ok (.invokespecial 25, 3) := by decide +kernel
theorem dX10_init_34 : decode cX10_init 34 = .ok (.putfield 26, 3) := by decide +kernel
theorem dX10_init_37 : decode cX10_init 37 = .ok (.aload_n 0, 1) := by decide +kernel
theorem dX10_init_38 : decode cX10_init 38 = .ok (.new 30, 3) := by decide +kernel
theorem dX10_init_41 : decode cX10_init 41 = .ok (.dup, 1) := by decide +kernel
theorem dX10_init_42 : decode cX10_init 42 = .ok (.invokespecial 32, 3) := by decide +kernel
theorem dX10_init_45 : decode cX10_init 45 = .ok (.putfield 33, 3) := by decide +kernel
theorem dX10_init_48 : decode cX10_init 48 = .ok (.aload_n 0, 1) := by decide +kernel
theorem dX10_init_49 : decode cX10_init 49 = .ok (.new 37, 3) := by decide +kernel
theorem dX10_init_52 : decode cX10_init 52 = .ok (.dup, 1) := by decide +kernel
theorem dX10_init_53 : decode cX10_init 53 = .ok (.invokespecial 39, 3) := by decide +kernel
theorem dX10_init_56 : decode cX10_init 56 = .ok (.putfield 40, 3) := by decide +kernel
theorem dX10_init_59 : decode cX10_init 59 = .ok (.aload_n 0, 1) := by decide +kernel
theorem dX10_init_60 : decode cX10_init 60 = .ok (.new 44, 3) := by decide +kernel
theorem dX10_init_63 : decode cX10_init 63 = .ok (.dup, 1) := by decide +kernel
theorem dX10_init_64 : decode cX10_init 64 = .ok (.invokespecial 46, 3) := by decide +kernel
theorem dX10_init_67 : decode cX10_init 67 = .ok (.putfield 47, 3) := by decide +kernel
theorem dX10_init_70 : decode cX10_init 70 = .ok (.return_, 1) := by decide +kernel
theorem dX10_width_0 : decode cX10_width 0 = .ok (.iload_n 1, 1) := by decide +kernel
theorem dX10_width_1 : decode cX10_width 1 = .ok (.iconst 1, 1) := by decide +kernel
theorem dX10_width_2 : decode cX10_width 2 = .ok (.sipush 400, 3) := by decide +kernel
theorem dX10_width_5 : decode cX10_width 5 = .ok (.invokestatic 51, 3) := by decide +kernel
theorem dX10_width_8 : decode cX10_width 8 = .ok (.ifCond .eq 6, 3) := by decide +kernel
theorem dX10_width_11 : decode cX10_width 11 = .ok (.ldc 55, 2) := by decide +kernel
theorem dX10_width_13 : decode cX10_width 13 = .ok (.ireturn, 1) := by decide +kernel
theorem dX10_width_14 : decode cX10_width 14 = .ok (.aload_n 0, 1) := by decide +kernel
theorem dX10_width_15 : decode cX10_width 15 = .ok (.getfield 10, 3) := by decide +kernel
theorem dX10_width_18 : decode cX10_width 18 = .ok (.getfield 56, 3) := by decide +kernel
theorem dX10_width_21 : decode cX10_width 21 = .ok (.istore_n 2, 1) := by decide +kernel
theorem dX10_width_22 : decode cX10_width 22 = .ok (.aload_n 0, 1) := by decide +kernel
theorem dX10_width_23 : decode cX10_width 23 = .ok (.getfield 10, 3) := by decide +kernel
theorem dX10_width_26 : decode cX10_width 26 = .ok (.iload_n 1, 1) := by decide +kernel
theorem dX10_width_27 : decode cX10_width 27 = .ok (.putfield 56, 3) := by decide +kernel
theorem dX10_width_30 : decode cX10_width 30 = .ok (.iload_n 2, 1) := by decide +kernel
theorem dX10_width_31 : decode cX10_width 31 = .ok (.ireturn, 1) := by decide +kernel
theorem dX10_piece_0 : decode cX10_piece 0 = .ok (.iload_n 1, 1) := by decide +kernel
theorem dX10_piece_1 : decode cX10_piece 1 = .ok (.iconst 0, 1) := by decide +kernel
theorem dX10_piece_2 : decode cX10_piece 2 = .ok (.sipush 400, 3) := by decide +kernel
theorem dX10_piece_5 : decode cX10_piece 5 = .ok (.invokestatic 51, 3) := by decide +kernel
theorem dX10_piece_8 : decode cX10_piece 8 = .ok (.ifCond .ne 24, 3) := by decide +kernel
theorem dX10_piece_11 : decode cX10_piece 11 = .ok (.iload_n 2, 1) := by decide +kernel
theorem dX10_piece_12 : decode cX10_piece 12 = .ok (.iconst 1, 1) := by decide +kernel
theorem dX10_piece_13 : decode cX10_piece 13 = .ok (.sipush 200, 3) := by decide +kernel
theorem dX10_piece_16 : decode cX10_piece 16 = .ok (.invokestatic 51, 3) := by decide +kernel
theorem dX10_piece_19 : decode cX10_piece 19 = .ok (.ifCond .ne 13, 3) := by decide +kernel
theorem dX10_piece_22 : decode cX10_piece 22 = .ok (.iload_n 3, 1) := by decide +kernel
theorem dX10_piece_23 : decode cX10_piece 23 = .ok (.iconst 0, 1) := by decide +kernel
theorem dX10_piece_24 : decode cX10_piece 24 = .ok (.bipush 9, 2) := by decide +kernel
theorem dX10_piece_26 : decode cX10_piece 26 = .ok (.invokestatic 51, 3) := by decide +kernel
theorem dX10_piece_29 : decode cX10_piece 29 = .ok (.ifCond .eq 6, 3) := by decide +kernel
theorem dX10_piece_32 : decode cX10_piece 32 = .ok (.ldc 55, 2) := by decide +kernel
theorem dX10_piece_34 : decode cX10_piece 34 = .ok (.ireturn, 1) := by decide +kernel
theorem dX10_piece_35 : decode cX10_piece 35 = .ok (.aload_n 0, 1) := by decide +kernel
theorem dX10_piece_36 : decode cX10_piece 36 = .ok (.getfield 10, 3) := by decide +kernel
theorem dX10_piece_39 : decode cX10_piece 39 = .ok (.getfield 60, 3) := by decide +kernel
theorem dX10_piece_42 : decode cX10_piece 42 = .ok (.bipush 12, 2) := by decide +kernel
theorem dX10_piece_44 : decode cX10_piece 44 = .ok (.if_icmp .lt 6, 3) := by decide +kernel
theorem dX10_piece_47 : decode cX10_piece 47 = .ok (.ldc 63, 2) := by decide +kernel
theorem dX10_piece_49 : decode cX10_piece 49 = .ok (.ireturn, 1) := by decide +kernel
theorem dX10_piece_50 : decode cX10_piece 50 = .ok (.aload_n 0, 1) := by decide +kernel
theorem dX10_piece_51 : decode cX10_piece 51 = .ok (.invokevirtual 64, 3) := by decide +kernel
theorem dX10_piece_54 : decode cX10_piece 54 = .ok (.aload_n 0, 1) := by decide +kernel
theorem dX10_piece_55 : decode cX10_piece 55 = .ok (.getfield 10, 3) := by decide +kernel
theorem dX10_piece_58 : decode cX10_piece 58 = .ok (.iload_n 1, 1) := by decide +kernel
theorem dX10_piece_59 : decode cX10_piece 59 = .ok (.iload_n 2, 1) := by decide +kernel
theorem dX10_piece_60 : decode cX10_piece 60 = .ok (.iload_n 3, 1) := by decide +kernel
theorem dX10_piece_61 : decode cX10_piece 61 = .ok (.iload 4, 2) := by decide +kernel
theorem dX10_piece_63 : decode cX10_piece 63 = .ok (.invokevirtual 67, 3) := by decide +kernel
theorem dX10_piece_66 : decode cX10_piece 66 = .ok (.ireturn, 1) := by decide +kernel
theorem dX10_about_0 : decode cX10_about 0 = .ok (.aload_n 0, 1) := by decide +kernel
theorem dX10_about_1 : decode cX10_about 1 = .ok (.getfield 10, 3) := by decide +kernel
theorem dX10_about_4 : decode cX10_about 4 = .ok (.iload_n 1, 1) := by decide +kernel
theorem dX10_about_5 : decode cX10_about 5 = .ok (.invokevirtual 71, 3) := by decide +kernel
theorem dX10_about_8 : decode cX10_about 8 = .ok (.ifCond .ne 6, 3) := by decide +kernel
theorem dX10_about_11 : decode cX10_about 11 = .ok (.ldc 75, 2) := by decide +kernel
theorem dX10_about_13 : decode cX10_about 13 = .ok (.ireturn, 1) := by decide +kernel
theorem dX10_about_14 : decode cX10_about 14 = .ok (.iload_n 2, 1) := by decide +kernel
theorem dX10_about_15 : decode cX10_about 15 = .ok (.tableswitch 77 0 3 #[29, 39, 49, 59], 29) := by decide +kernel
theorem dX10_about_44 : decode cX10_about 44 = .ok (.aload_n 0, 1) := by decide +kernel
theorem dX10_about_45 : decode cX10_about 45 = .ok (.getfield 10, 3) := by decide +kernel
theorem dX10_about_48 : decode cX10_about 48 = .ok (.getfield 76, 3) := by decide +kernel
theorem dX10_about_51 : decode cX10_about 51 = .ok (.iload_n 1, 1) := by decide +kernel
theorem dX10_about_52 : decode cX10_about 52 = .ok (.iaload, 1) := by decide +kernel
theorem dX10_about_53 : decode cX10_about 53 = .ok (.ireturn, 1) := by decide +kernel
theorem dX10_about_54 : decode cX10_about 54 = .ok (.aload_n 0, 1) := by decide +kernel
theorem dX10_about_55 : decode cX10_about 55 = .ok (.getfield 10, 3) := by decide +kernel
theorem dX10_about_58 : decode cX10_about 58 = .ok (.getfield 80, 3) := by decide +kernel
theorem dX10_about_61 : decode cX10_about 61 = .ok (.iload_n 1, 1) := by decide +kernel
theorem dX10_about_62 : decode cX10_about 62 = .ok (.iaload, 1) := by decide +kernel
theorem dX10_about_63 : decode cX10_about 63 = .ok (.ireturn, 1) := by decide +kernel
theorem dX10_about_64 : decode cX10_about 64 = .ok (.aload_n 0, 1) := by decide +kernel
theorem dX10_about_65 : decode cX10_about 65 = .ok (.getfield 10, 3) := by decide +kernel
theorem dX10_about_68 : decode cX10_about 68 = .ok (.getfield 83, 3) := by decide +kernel
theorem dX10_about_71 : decode cX10_about 71 = .ok (.iload_n 1, 1) := by decide +kernel
theorem dX10_about_72 : decode cX10_about 72 = .ok (.iaload, 1) := by decide +kernel
theorem dX10_about_73 : decode cX10_about 73 = .ok (.ireturn, 1) := by decide +kernel
theorem dX10_about_74 : decode cX10_about 74 = .ok (.aload_n 0, 1) := by decide +kernel
theorem dX10_about_75 : decode cX10_about 75 = .ok (.getfield 10, 3) := by decide +kernel
theorem dX10_about_78 : decode cX10_about 78 = .ok (.getfield 86, 3) := by decide +kernel
theorem dX10_about_81 : decode cX10_about 81 = .ok (.iload_n 1, 1) := by decide +kernel
theorem dX10_about_82 : decode cX10_about 82 = .ok (.baload, 1) := by decide +kernel
theorem dX10_about_83 : decode cX10_about 83 = .ok (.ifCond .eq 7, 3) := by decide +kernel
theorem dX10_about_86 : decode cX10_about 86 = .ok (.iconst 1, 1) := by decide +kernel
theorem dX10_about_87 : decode cX10_about 87 = .ok (.goto 4, 3) := by decide +kernel
theorem dX10_about_90 : decode cX10_about 90 = .ok (.iconst 0, 1) := by decide +kernel
theorem dX10_about_91 : decode cX10_about 91 = .ok (.ireturn, 1) := by decide +kernel
theorem dX10_about_92 : decode cX10_about 92 = .ok (.ldc 55, 2) := by decide +kernel
theorem dX10_about_94 : decode cX10_about 94 = .ok (.ireturn, 1) := by decide +kernel
theorem dX10_meet_0 : decode cX10_meet 0 = .ok (.aload_n 0, 1) := by decide +kernel
theorem dX10_meet_1 : decode cX10_meet 1 = .ok (.getfield 10, 3) := by decide +kernel
theorem dX10_meet_4 : decode cX10_meet 4 = .ok (.iload_n 1, 1) := by decide +kernel
theorem dX10_meet_5 : decode cX10_meet 5 = .ok (.invokevirtual 71, 3) := by decide +kernel
theorem dX10_meet_8 : decode cX10_meet 8 = .ok (.ifCond .eq 14, 3) := by decide +kernel
theorem dX10_meet_11 : decode cX10_meet 11 = .ok (.aload_n 0, 1) := by decide +kernel
theorem dX10_meet_12 : decode cX10_meet 12 = .ok (.getfield 10, 3) := by decide +kernel
theorem dX10_meet_15 : decode cX10_meet 15 = .ok (.iload_n 3, 1) := by decide +kernel
theorem dX10_meet_16 : decode cX10_meet 16 = .ok (.invokevirtual 71, 3) := by decide +kernel
theorem dX10_meet_19 : decode cX10_meet 19 = .ok (.ifCond .ne 6, 3) := by decide +kernel
theorem dX10_meet_22 : decode cX10_meet 22 = .ok (.ldc 75, 2) := by decide +kernel
theorem dX10_meet_24 : decode cX10_meet 24 = .ok (.ireturn, 1) := by decide +kernel
theorem dX10_meet_25 : decode cX10_meet 25 = .ok (.iload_n 2, 1) := by decide +kernel
theorem dX10_meet_26 : decode cX10_meet 26 = .ok (.iconst 0, 1) := by decide +kernel
theorem dX10_meet_27 : decode cX10_meet 27 = .ok (.iconst 1, 1) := by decide +kernel
theorem dX10_meet_28 : decode cX10_meet 28 = .ok (.invokestatic 51, 3) := by decide +kernel
theorem dX10_meet_31 : decode cX10_meet 31 = .ok (.ifCond .ne 13, 3) := by decide +kernel
theorem dX10_meet_34 : decode cX10_meet 34 = .ok (.iload 4, 2) := by decide +kernel
theorem dX10_meet_36 : decode cX10_meet 36 = .ok (.iconst 0, 1) := by decide +kernel
theorem dX10_meet_37 : decode cX10_meet 37 = .ok (.iconst 1, 1) := by decide +kernel
theorem dX10_meet_38 : decode cX10_meet 38 = .ok (.invokestatic 51, 3) := by decide +kernel
theorem dX10_meet_41 : decode cX10_meet 41 = .ok (.ifCond .eq 6, 3) := by decide +kernel
theorem dX10_meet_44 : decode cX10_meet 44 = .ok (.ldc 55, 2) := by decide +kernel
theorem dX10_meet_46 : decode cX10_meet 46 = .ok (.ireturn, 1) := by decide +kernel
theorem dX10_meet_47 : decode cX10_meet 47 = .ok (.iload_n 1, 1) := by decide +kernel
theorem dX10_meet_48 : decode cX10_meet 48 = .ok (.iload_n 3, 1) := by decide +kernel
theorem dX10_meet_49 : decode cX10_meet 49 = .ok (.if_icmp .ne 6, 3) := by decide +kernel
theorem dX10_meet_52 : decode cX10_meet 52 = .ok (.ldc 90, 2) := by decide +kernel
theorem dX10_meet_54 : decode cX10_meet 54 = .ok (.ireturn, 1) := by decide +kernel
theorem dX10_meet_55 : decode cX10_meet 55 = .ok (.aload_n 0, 1) := by decide +kernel
theorem dX10_meet_56 : decode cX10_meet 56 = .ok (.getfield 10, 3) := by decide +kernel
theorem dX10_meet_59 : decode cX10_meet 59 = .ok (.getfield 91, 3) := by decide +kernel
theorem dX10_meet_62 : decode cX10_meet 62 = .ok (.bipush 20, 2) := by decide +kernel
theorem dX10_meet_64 : decode cX10_meet 64 = .ok (.if_icmp .lt 6, 3) := by decide +kernel
theorem dX10_meet_67 : decode cX10_meet 67 = .ok (.ldc 63, 2) := by decide +kernel
theorem dX10_meet_69 : decode cX10_meet 69 = .ok (.ireturn, 1) := by decide +kernel
theorem dX10_meet_70 : decode cX10_meet 70 = .ok (.aload_n 0, 1) := by decide +kernel
theorem dX10_meet_71 : decode cX10_meet 71 = .ok (.getfield 10, 3) := by decide +kernel
theorem dX10_meet_74 : decode cX10_meet 74 = .ok (.iload_n 1, 1) := by decide +kernel
theorem dX10_meet_75 : decode cX10_meet 75 = .ok (.iload_n 2, 1) := by decide +kernel
theorem dX10_meet_76 : decode cX10_meet 76 = .ok (.iload_n 3, 1) := by decide +kernel
theorem dX10_meet_77 : decode cX10_meet 77 = .ok (.iload 4, 2) := by decide +kernel
theorem dX10_meet_79 : decode cX10_meet 79 = .ok (.invokevirtual 94, 3) := by decide +kernel
theorem dX10_meet_82 : decode cX10_meet 82 = .ok (.ireturn, 1) := by decide +kernel
theorem dX10_apart_0 : decode cX10_apart 0 = .ok (.iconst 0, 1) := by decide +kernel
theorem dX10_apart_1 : decode cX10_apart 1 = .ok (.istore_n 1, 1) := by decide +kernel
theorem dX10_apart_2 : decode cX10_apart 2 = .ok (.iload_n 1, 1) := by decide +kernel
theorem dX10_apart_3 : decode cX10_apart 3 = .ok (.aload_n 0, 1) := by decide +kernel
theorem dX10_apart_4 : decode cX10_apart 4 = .ok (.getfield 10, 3) := by decide +kernel
theorem dX10_apart_7 : decode cX10_apart 7 = .ok (.getfield 91, 3) := by decide +kernel
theorem dX10_apart_10 : decode cX10_apart 10 = .ok (.if_icmp .ge 22, 3) := by decide +kernel
theorem dX10_apart_13 : decode cX10_apart 13 = .ok (.aload_n 0, 1) := by decide +kernel
theorem dX10_apart_14 : decode cX10_apart 14 = .ok (.getfield 10, 3) := by decide +kernel
theorem dX10_apart_17 : decode cX10_apart 17 = .ok (.iload_n 1, 1) := by decide +kernel
theorem dX10_apart_18 : decode cX10_apart 18 = .ok (.invokevirtual 98, 3) := by decide +kernel
theorem dX10_apart_21 : decode cX10_apart 21 = .ok (.ifCond .ne 5, 3) := by decide +kernel
theorem dX10_apart_24 : decode cX10_apart 24 = .ok (.iload_n 1, 1) := by decide +kernel
theorem dX10_apart_25 : decode cX10_apart 25 = .ok (.ireturn, 1) := by decide +kernel
theorem dX10_apart_26 : decode cX10_apart 26 = .ok (.iinc 1 1, 3) := by decide +kernel
theorem dX10_apart_29 : decode cX10_apart 29 = .ok (.goto (-27), 3) := by decide +kernel
theorem dX10_apart_32 : decode cX10_apart 32 = .ok (.ldc 101, 2) := by decide +kernel
theorem dX10_apart_34 : decode cX10_apart 34 = .ok (.ireturn, 1) := by decide +kernel
theorem dX10_mirror_0 : decode cX10_mirror 0 = .ok (.aload_n 0, 1) := by decide +kernel
theorem dX10_mirror_1 : decode cX10_mirror 1 = .ok (.getfield 10, 3) := by decide +kernel
theorem dX10_mirror_4 : decode cX10_mirror 4 = .ok (.invokevirtual 102, 3) := by decide +kernel
theorem dX10_mirror_7 : decode cX10_mirror 7 = .ok (.ifCond .eq 13, 3) := by decide +kernel
theorem dX10_mirror_10 : decode cX10_mirror 10 = .ok (.aload_n 0, 1) := by decide +kernel
theorem dX10_mirror_11 : decode cX10_mirror 11 = .ok (.getfield 10, 3) := by decide +kernel
theorem dX10_mirror_14 : decode cX10_mirror 14 = .ok (.invokevirtual 106, 3) := by decide +kernel
theorem dX10_mirror_17 : decode cX10_mirror 17 = .ok (.goto 5, 3) := by decide +kernel
theorem dX10_mirror_20 : decode cX10_mirror 20 = .ok (.ldc 90, 2) := by decide +kernel
theorem dX10_mirror_22 : decode cX10_mirror 22 = .ok (.ireturn, 1) := by decide +kernel
theorem dX10_stretch_0 : decode cX10_stretch 0 = .ok (.iload_n 1, 1) := by decide +kernel
theorem dX10_stretch_1 : decode cX10_stretch 1 = .ok (.iload_n 2, 1) := by decide +kernel
theorem dX10_stretch_2 : decode cX10_stretch 2 = .ok (.invokestatic 110, 3) := by decide +kernel
theorem dX10_stretch_5 : decode cX10_stretch 5 = .ok (.ifCond .eq 6, 3) := by decide +kernel
theorem dX10_stretch_8 : decode cX10_stretch 8 = .ok (.ldc 55, 2) := by decide +kernel
theorem dX10_stretch_10 : decode cX10_stretch 10 = .ok (.ireturn, 1) := by decide +kernel
theorem dX10_stretch_11 : decode cX10_stretch 11 = .ok (.aload_n 0, 1) := by decide +kernel
theorem dX10_stretch_12 : decode cX10_stretch 12 = .ok (.getfield 10, 3) := by decide +kernel
theorem dX10_stretch_15 : decode cX10_stretch 15 = .ok (.iload_n 1, 1) := by decide +kernel
theorem dX10_stretch_16 : decode cX10_stretch 16 = .ok (.iload_n 2, 1) := by decide +kernel
theorem dX10_stretch_17 : decode cX10_stretch 17 = .ok (.invokevirtual 114, 3) := by decide +kernel
theorem dX10_stretch_20 : decode cX10_stretch 20 = .ok (.ifCond .eq 6, 3) := by decide +kernel
theorem dX10_stretch_23 : decode cX10_stretch 23 = .ok (.ldc 90, 2) := by decide +kernel
theorem dX10_stretch_25 : decode cX10_stretch 25 = .ok (.ireturn, 1) := by decide +kernel
theorem dX10_stretch_26 : decode cX10_stretch 26 = .ok (.aload_n 0, 1) := by decide +kernel
theorem dX10_stretch_27 : decode cX10_stretch 27 = .ok (.invokevirtual 64, 3) := by decide +kernel
theorem dX10_stretch_30 : decode cX10_stretch 30 = .ok (.aload_n 0, 1) := by decide +kernel
theorem dX10_stretch_31 : decode cX10_stretch 31 = .ok (.getfield 10, 3) := by decide +kernel
theorem dX10_stretch_34 : decode cX10_stretch 34 = .ok (.iload_n 1, 1) := by decide +kernel
theorem dX10_stretch_35 : decode cX10_stretch 35 = .ok (.iload_n 2, 1) := by decide +kernel
theorem dX10_stretch_36 : decode cX10_stretch 36 = .ok (.invokevirtual 118, 3) := by decide +kernel
theorem dX10_stretch_39 : decode cX10_stretch 39 = .ok (.ireturn, 1) := by decide +kernel
theorem dX10_why_0 : decode cX10_why 0 = .ok (.iload_n 1, 1) := by decide +kernel
theorem dX10_why_1 : decode cX10_why 1 = .ok (.iload_n 2, 1) := by decide +kernel
theorem dX10_why_2 : decode cX10_why 2 = .ok (.invokestatic 110, 3) := by decide +kernel
theorem dX10_why_5 : decode cX10_why 5 = .ok (.ifCond .eq 8, 3) := by decide +kernel
theorem dX10_why_8 : decode cX10_why 8 = .ok (.ldc 55, 2) := by decide +kernel
theorem dX10_why_10 : decode cX10_why 10 = .ok (.goto 12, 3) := by decide +kernel
theorem dX10_why_13 : decode cX10_why 13 = .ok (.aload_n 0, 1) := by decide +kernel
theorem dX10_why_14 : decode cX10_why 14 = .ok (.getfield 10, 3) := by decide +kernel
theorem dX10_why_17 : decode cX10_why 17 = .ok (.iload_n 1, 1) := by decide +kernel
theorem dX10_why_18 : decode cX10_why 18 = .ok (.iload_n 2, 1) := by decide +kernel
theorem dX10_why_19 : decode cX10_why 19 = .ok (.invokevirtual 114, 3) := by decide +kernel
theorem dX10_why_22 : decode cX10_why 22 = .ok (.ireturn, 1) := by decide +kernel
theorem dX10_lean_0 : decode cX10_lean 0 = .ok (.aload_n 0, 1) := by decide +kernel
theorem dX10_lean_1 : decode cX10_lean 1 = .ok (.getfield 10, 3) := by decide +kernel
theorem dX10_lean_4 : decode cX10_lean 4 = .ok (.iload_n 1, 1) := by decide +kernel
theorem dX10_lean_5 : decode cX10_lean 5 = .ok (.invokevirtual 71, 3) := by decide +kernel
theorem dX10_lean_8 : decode cX10_lean 8 = .ok (.ifCond .eq 14, 3) := by decide +kernel
theorem dX10_lean_11 : decode cX10_lean 11 = .ok (.aload_n 0, 1) := by decide +kernel
theorem dX10_lean_12 : decode cX10_lean 12 = .ok (.getfield 10, 3) := by decide +kernel
theorem dX10_lean_15 : decode cX10_lean 15 = .ok (.iload_n 2, 1) := by decide +kernel
theorem dX10_lean_16 : decode cX10_lean 16 = .ok (.invokevirtual 71, 3) := by decide +kernel
theorem dX10_lean_19 : decode cX10_lean 19 = .ok (.ifCond .ne 6, 3) := by decide +kernel
theorem dX10_lean_22 : decode cX10_lean 22 = .ok (.ldc 75, 2) := by decide +kernel
theorem dX10_lean_24 : decode cX10_lean 24 = .ok (.ireturn, 1) := by decide +kernel
theorem dX10_lean_25 : decode cX10_lean 25 = .ok (.iload_n 3, 1) := by decide +kernel
theorem dX10_lean_26 : decode cX10_lean 26 = .ok (.ifCond .eq 23, 3) := by decide +kernel
theorem dX10_lean_29 : decode cX10_lean 29 = .ok (.iload_n 1, 1) := by decide +kernel
theorem dX10_lean_30 : decode cX10_lean 30 = .ok (.iload_n 2, 1) := by decide +kernel
theorem dX10_lean_31 : decode cX10_lean 31 = .ok (.if_icmp .eq 15, 3) := by decide +kernel
theorem dX10_lean_34 : decode cX10_lean 34 = .ok (.aload_n 0, 1) := by decide +kernel
theorem dX10_lean_35 : decode cX10_lean 35 = .ok (.getfield 19, 3) := by decide +kernel
theorem dX10_lean_38 : decode cX10_lean 38 = .ok (.iload_n 2, 1) := by decide +kernel
theorem dX10_lean_39 : decode cX10_lean 39 = .ok (.iload_n 1, 1) := by decide +kernel
theorem dX10_lean_40 : decode cX10_lean 40 = .ok (.invokevirtual 121, 3) := by decide +kernel
theorem dX10_lean_43 : decode cX10_lean 43 = .ok (.ifCond .eq 6, 3) := by decide +kernel
theorem dX10_lean_46 : decode cX10_lean 46 = .ok (.ldc 90, 2) := by decide +kernel
theorem dX10_lean_48 : decode cX10_lean 48 = .ok (.ireturn, 1) := by decide +kernel
theorem dX10_lean_49 : decode cX10_lean 49 = .ok (.aload_n 0, 1) := by decide +kernel
theorem dX10_lean_50 : decode cX10_lean 50 = .ok (.getfield 33, 3) := by decide +kernel
theorem dX10_lean_53 : decode cX10_lean 53 = .ok (.iconst 1, 1) := by decide +kernel
theorem dX10_lean_54 : decode cX10_lean 54 = .ok (.putfield 124, 3) := by decide +kernel
theorem dX10_lean_57 : decode cX10_lean 57 = .ok (.aload_n 0, 1) := by decide +kernel
theorem dX10_lean_58 : decode cX10_lean 58 = .ok (.getfield 19, 3) := by decide +kernel
theorem dX10_lean_61 : decode cX10_lean 61 = .ok (.iload_n 1, 1) := by decide +kernel
theorem dX10_lean_62 : decode cX10_lean 62 = .ok (.iload_n 2, 1) := by decide +kernel
theorem dX10_lean_63 : decode cX10_lean 63 = .ok (.iload_n 3, 1) := by decide +kernel
theorem dX10_lean_64 : decode cX10_lean 64 = .ok (.invokevirtual 128, 3) := by decide +kernel
theorem dX10_lean_67 : decode cX10_lean 67 = .ok (.ifCond .eq 7, 3) := by decide +kernel
theorem dX10_lean_70 : decode cX10_lean 70 = .ok (.iconst 1, 1) := by decide +kernel
theorem dX10_lean_71 : decode cX10_lean 71 = .ok (.goto 4, 3) := by decide +kernel
theorem dX10_lean_74 : decode cX10_lean 74 = .ok (.iconst 0, 1) := by decide +kernel
theorem dX10_lean_75 : decode cX10_lean 75 = .ok (.ireturn, 1) := by decide +kernel
theorem dX10_order_0 : decode cX10_order 0 = .ok (.aload_n 0, 1) := by decide +kernel
theorem dX10_order_1 : decode cX10_order 1 = .ok (.getfield 10, 3) := by decide +kernel
theorem dX10_order_4 : decode cX10_order 4 = .ok (.iload_n 1, 1) := by decide +kernel
theorem dX10_order_5 : decode cX10_order 5 = .ok (.invokevirtual 71, 3) := by decide +kernel
theorem dX10_order_8 : decode cX10_order 8 = .ok (.ifCond .ne 6, 3) := by decide +kernel
theorem dX10_order_11 : decode cX10_order 11 = .ok (.ldc 101, 2) := by decide +kernel
theorem dX10_order_13 : decode cX10_order 13 = .ok (.ireturn, 1) := by decide +kernel
theorem dX10_order_14 : decode cX10_order 14 = .ok (.aload_n 0, 1) := by decide +kernel
theorem dX10_order_15 : decode cX10_order 15 = .ok (.getfield 19, 3) := by decide +kernel
theorem dX10_order_18 : decode cX10_order 18 = .ok (.aload_n 0, 1) := by decide +kernel
theorem dX10_order_19 : decode cX10_order 19 = .ok (.getfield 10, 3) := by decide +kernel
theorem dX10_order_22 : decode cX10_order 22 = .ok (.getfield 60, 3) := by decide +kernel
theorem dX10_order_25 : decode cX10_order 25 = .ok (.invokevirtual 132, 3) := by decide +kernel
theorem dX10_order_28 : decode cX10_order 28 = .ok (.aload_n 0, 1) := by decide +kernel
theorem dX10_order_29 : decode cX10_order 29 = .ok (.getfield 19, 3) := by decide +kernel
theorem dX10_order_32 : decode cX10_order 32 = .ok (.getfield 136, 3) := by decide +kernel
theorem dX10_order_35 : decode cX10_order 35 = .ok (.iload_n 1, 1) := by decide +kernel
theorem dX10_order_36 : decode cX10_order 36 = .ok (.iaload, 1) := by decide +kernel
theorem dX10_order_37 : decode cX10_order 37 = .ok (.ireturn, 1) := by decide +kernel
theorem dX10_below_0 : decode cX10_below 0 = .ok (.aload_n 0, 1) := by decide +kernel
theorem dX10_below_1 : decode cX10_below 1 = .ok (.getfield 10, 3) := by decide +kernel
theorem dX10_below_4 : decode cX10_below 4 = .ok (.iload_n 1, 1) := by decide +kernel
theorem dX10_below_5 : decode cX10_below 5 = .ok (.invokevirtual 71, 3) := by decide +kernel
theorem dX10_below_8 : decode cX10_below 8 = .ok (.ifCond .eq 17, 3) := by decide +kernel
theorem dX10_below_11 : decode cX10_below 11 = .ok (.aload_n 0, 1) := by decide +kernel
theorem dX10_below_12 : decode cX10_below 12 = .ok (.getfield 19, 3) := by decide +kernel
theorem dX10_below_15 : decode cX10_below 15 = .ok (.iload_n 1, 1) := by decide +kernel
theorem dX10_below_16 : decode cX10_below 16 = .ok (.invokevirtual 139, 3) := by decide +kernel
theorem dX10_below_19 : decode cX10_below 19 = .ok (.invokestatic 143, 3) := by decide +kernel
theorem dX10_below_22 : decode cX10_below 22 = .ok (.goto 5, 3) := by decide +kernel
theorem dX10_below_25 : decode cX10_below 25 = .ok (.ldc 75, 2) := by decide +kernel
theorem dX10_below_27 : decode cX10_below 27 = .ok (.ireturn, 1) := by decide +kernel
theorem dX10_sort_0 : decode cX10_sort 0 = .ok (.iload_n 1, 1) := by decide +kernel
theorem dX10_sort_1 : decode cX10_sort 1 = .ok (.iconst 0, 1) := by decide +kernel
theorem dX10_sort_2 : decode cX10_sort 2 = .ok (.iconst 3, 1) := by decide +kernel
theorem dX10_sort_3 : decode cX10_sort 3 = .ok (.invokestatic 51, 3) := by decide +kernel
theorem dX10_sort_6 : decode cX10_sort 6 = .ok (.ifCond .eq 6, 3) := by decide +kernel
theorem dX10_sort_9 : decode cX10_sort 9 = .ok (.ldc 75, 2) := by decide +kernel
theorem dX10_sort_11 : decode cX10_sort 11 = .ok (.ireturn, 1) := by decide +kernel
theorem dX10_sort_12 : decode cX10_sort 12 = .ok (.iload_n 2, 1) := by decide +kernel
theorem dX10_sort_13 : decode cX10_sort 13 = .ok (.iconst 0, 1) := by decide +kernel
theorem dX10_sort_14 : decode cX10_sort 14 = .ok (.sipush 400, 3) := by decide +kernel
theorem dX10_sort_17 : decode cX10_sort 17 = .ok (.invokestatic 51, 3) := by decide +kernel
theorem dX10_sort_20 : decode cX10_sort 20 = .ok (.ifCond .ne 14, 3) := by decide +kernel
theorem dX10_sort_23 : decode cX10_sort 23 = .ok (.iload_n 3, 1) := by decide +kernel
theorem dX10_sort_24 : decode cX10_sort 24 = .ok (.iconst 0, 1) := by decide +kernel
theorem dX10_sort_25 : decode cX10_sort 25 = .ok (.sipush 9999, 3) := by decide +kernel
theorem dX10_sort_28 : decode cX10_sort 28 = .ok (.invokestatic 51, 3) := by decide +kernel
theorem dX10_sort_31 : decode cX10_sort 31 = .ok (.ifCond .eq 6, 3) := by decide +kernel
theorem dX10_sort_34 : decode cX10_sort 34 = .ok (.ldc 55, 2) := by decide +kernel
theorem dX10_sort_36 : decode cX10_sort 36 = .ok (.ireturn, 1) := by decide +kernel
theorem dX10_sort_37 : decode cX10_sort 37 = .ok (.aload_n 0, 1) := by decide +kernel
theorem dX10_sort_38 : decode cX10_sort 38 = .ok (.getfield 26, 3) := by decide +kernel
theorem dX10_sort_41 : decode cX10_sort 41 = .ok (.getfield 148, 3) := by decide +kernel
theorem dX10_sort_44 : decode cX10_sort 44 = .ok (.iload_n 1, 1) := by decide +kernel
theorem dX10_sort_45 : decode cX10_sort 45 = .ok (.iaload, 1) := by decide +kernel
theorem dX10_sort_46 : decode cX10_sort 46 = .ok (.istore 4, 2) := by decide +kernel
theorem dX10_sort_48 : decode cX10_sort 48 = .ok (.aload_n 0, 1) := by decide +kernel
theorem dX10_sort_49 : decode cX10_sort 49 = .ok (.getfield 26, 3) := by decide +kernel
theorem dX10_sort_52 : decode cX10_sort 52 = .ok (.getfield 148, 3) := by decide +kernel
theorem dX10_sort_55 : decode cX10_sort 55 = .ok (.iload_n 1, 1) := by decide +kernel
theorem dX10_sort_56 : decode cX10_sort 56 = .ok (.iload_n 2, 1) := by decide +kernel
theorem dX10_sort_57 : decode cX10_sort 57 = .ok (.iastore, 1) := by decide +kernel
theorem dX10_sort_58 : decode cX10_sort 58 = .ok (.aload_n 0, 1) := by decide +kernel
theorem dX10_sort_59 : decode cX10_sort 59 = .ok (.getfield 26, 3) := by decide +kernel
theorem dX10_sort_62 : decode cX10_sort 62 = .ok (.getfield 151, 3) := by decide +kernel
theorem dX10_sort_65 : decode cX10_sort 65 = .ok (.iload_n 1, 1) := by decide +kernel
theorem dX10_sort_66 : decode cX10_sort 66 = .ok (.iload_n 3, 1) := by decide +kernel
theorem dX10_sort_67 : decode cX10_sort 67 = .ok (.iastore, 1) := by decide +kernel
theorem dX10_sort_68 : decode cX10_sort 68 = .ok (.aload_n 0, 1) := by decide +kernel
theorem dX10_sort_69 : decode cX10_sort 69 = .ok (.getfield 26, 3) := by decide +kernel
theorem dX10_sort_72 : decode cX10_sort 72 = .ok (.iconst 1, 1) := by decide +kernel
theorem dX10_sort_73 : decode cX10_sort 73 = .ok (.putfield 154, 3) := by decide +kernel
theorem dX10_sort_76 : decode cX10_sort 76 = .ok (.iload 4, 2) := by decide +kernel
theorem dX10_sort_78 : decode cX10_sort 78 = .ok (.ireturn, 1) := by decide +kernel
theorem dX10_saw_0 : decode cX10_saw 0 = .ok (.iload_n 1, 1) := by decide +kernel
theorem dX10_saw_1 : decode cX10_saw 1 = .ok (.iconst 0, 1) := by decide +kernel
theorem dX10_saw_2 : decode cX10_saw 2 = .ok (.bipush 9, 2) := by decide +kernel
theorem dX10_saw_4 : decode cX10_saw 4 = .ok (.invokestatic 51, 3) := by decide +kernel
theorem dX10_saw_7 : decode cX10_saw 7 = .ok (.ifCond .eq 6, 3) := by decide +kernel
theorem dX10_saw_10 : decode cX10_saw 10 = .ok (.ldc 55, 2) := by decide +kernel
theorem dX10_saw_12 : decode cX10_saw 12 = .ok (.ireturn, 1) := by decide +kernel
theorem dX10_saw_13 : decode cX10_saw 13 = .ok (.aload_n 0, 1) := by decide +kernel
theorem dX10_saw_14 : decode cX10_saw 14 = .ok (.getfield 26, 3) := by decide +kernel
theorem dX10_saw_17 : decode cX10_saw 17 = .ok (.getfield 155, 3) := by decide +kernel
theorem dX10_saw_20 : decode cX10_saw 20 = .ok (.istore_n 2, 1) := by decide +kernel
theorem dX10_saw_21 : decode cX10_saw 21 = .ok (.aload_n 0, 1) := by decide +kernel
theorem dX10_saw_22 : decode cX10_saw 22 = .ok (.getfield 26, 3) := by decide +kernel
theorem dX10_saw_25 : decode cX10_saw 25 = .ok (.iload_n 1, 1) := by decide +kernel
theorem dX10_saw_26 : decode cX10_saw 26 = .ok (.putfield 155, 3) := by decide +kernel
theorem dX10_saw_29 : decode cX10_saw 29 = .ok (.aload_n 0, 1) := by decide +kernel
theorem dX10_saw_30 : decode cX10_saw 30 = .ok (.getfield 26, 3) := by decide +kernel
theorem dX10_saw_33 : decode cX10_saw 33 = .ok (.iconst 1, 1) := by decide +kernel
theorem dX10_saw_34 : decode cX10_saw 34 = .ok (.putfield 154, 3) := by decide +kernel
theorem dX10_saw_37 : decode cX10_saw 37 = .ok (.iload_n 2, 1) := by decide +kernel
theorem dX10_saw_38 : decode cX10_saw 38 = .ok (.ireturn, 1) := by decide +kernel
theorem dX10_price_0 : decode cX10_price 0 = .ok (.aload_n 0, 1) := by decide +kernel
theorem dX10_price_1 : decode cX10_price 1 = .ok (.invokevirtual 158, 3) := by decide +kernel
theorem dX10_price_4 : decode cX10_price 4 = .ok (.ifCond .eq 13, 3) := by decide +kernel
theorem dX10_price_7 : decode cX10_price 7 = .ok (.aload_n 0, 1) := by decide +kernel
theorem dX10_price_8 : decode cX10_price 8 = .ok (.getfield 26, 3) := by decide +kernel
theorem dX10_price_11 : decode cX10_price 11 = .ok (.getfield 161, 3) := by decide +kernel
theorem dX10_price_14 : decode cX10_price 14 = .ok (.goto 5, 3) := by decide +kernel
theorem dX10_price_17 : decode cX10_price 17 = .ok (.ldc 101, 2) := by decide +kernel
theorem dX10_price_19 : decode cX10_price 19 = .ok (.ireturn, 1) := by decide +kernel
theorem dX10_boards_0 : decode cX10_boards 0 = .ok (.aload_n 0, 1) := by decide +kernel
theorem dX10_boards_1 : decode cX10_boards 1 = .ok (.invokevirtual 158, 3) := by decide +kernel
theorem dX10_boards_4 : decode cX10_boards 4 = .ok (.ifCond .eq 13, 3) := by decide +kernel
theorem dX10_boards_7 : decode cX10_boards 7 = .ok (.aload_n 0, 1) := by decide +kernel
theorem dX10_boards_8 : decode cX10_boards 8 = .ok (.getfield 26, 3) := by decide +kernel
theorem dX10_boards_11 : decode cX10_boards 11 = .ok (.getfield 164, 3) := by decide +kernel
theorem dX10_boards_14 : decode cX10_boards 14 = .ok (.goto 5, 3) := by decide +kernel
theorem dX10_boards_17 : decode cX10_boards 17 = .ok (.ldc 101, 2) := by decide +kernel
theorem dX10_boards_19 : decode cX10_boards 19 = .ok (.ireturn, 1) := by decide +kernel
theorem dX10_board_0 : decode cX10_board 0 = .ok (.aload_n 0, 1) := by decide +kernel
theorem dX10_board_1 : decode cX10_board 1 = .ok (.getfield 10, 3) := by decide +kernel
theorem dX10_board_4 : decode cX10_board 4 = .ok (.iload_n 1, 1) := by decide +kernel
theorem dX10_board_5 : decode cX10_board 5 = .ok (.invokevirtual 71, 3) := by decide +kernel
theorem dX10_board_8 : decode cX10_board 8 = .ok (.ifCond .ne 6, 3) := by decide +kernel
theorem dX10_board_11 : decode cX10_board 11 = .ok (.ldc 75, 2) := by decide +kernel
theorem dX10_board_13 : decode cX10_board 13 = .ok (.ireturn, 1) := by decide +kernel
theorem dX10_board_14 : decode cX10_board 14 = .ok (.aload_n 0, 1) := by decide +kernel
theorem dX10_board_15 : decode cX10_board 15 = .ok (.invokevirtual 158, 3) := by decide +kernel
theorem dX10_board_18 : decode cX10_board 18 = .ok (.ifCond .eq 15, 3) := by decide +kernel
theorem dX10_board_21 : decode cX10_board 21 = .ok (.aload_n 0, 1) := by decide +kernel
theorem dX10_board_22 : decode cX10_board 22 = .ok (.getfield 26, 3) := by decide +kernel
theorem dX10_board_25 : decode cX10_board 25 = .ok (.getfield 167, 3) := by decide +kernel
theorem dX10_board_28 : decode cX10_board 28 = .ok (.iload_n 1, 1) := by decide +kernel
theorem dX10_board_29 : decode cX10_board 29 = .ok (.iaload, 1) := by decide +kernel
theorem dX10_board_30 : decode cX10_board 30 = .ok (.goto 5, 3) := by decide +kernel
theorem dX10_board_33 : decode cX10_board 33 = .ok (.ldc 101, 2) := by decide +kernel
theorem dX10_board_35 : decode cX10_board 35 = .ok (.ireturn, 1) := by decide +kernel
theorem dX10_ofBoard_0 : decode cX10_ofBoard 0 = .ok (.aload_n 0, 1) := by decide +kernel
theorem dX10_ofBoard_1 : decode cX10_ofBoard 1 = .ok (.invokevirtual 158, 3) := by decide +kernel
theorem dX10_ofBoard_4 : decode cX10_ofBoard 4 = .ok (.ifCond .eq 20, 3) := by decide +kernel
theorem dX10_ofBoard_7 : decode cX10_ofBoard 7 = .ok (.iload_n 1, 1) := by decide +kernel
theorem dX10_ofBoard_8 : decode cX10_ofBoard 8 = .ok (.iconst 0, 1) := by decide +kernel
theorem dX10_ofBoard_9 : decode cX10_ofBoard 9 = .ok (.aload_n 0, 1) := by decide +kernel
theorem dX10_ofBoard_10 : decode cX10_ofBoard 10 = .ok (.getfield 26, 3) := by decide +kernel
theorem dX10_ofBoard_13 : decode cX10_ofBoard 13 = .ok (.getfield 164, 3) := by decide +kernel
theorem dX10_ofBoard_16 : decode cX10_ofBoard 16 = .ok (.iconst 1, 1) := by decide +kernel
theorem dX10_ofBoard_17 : decode cX10_ofBoard 17 = .ok (.isub, 1) := by decide +kernel
theorem dX10_ofBoard_18 : decode cX10_ofBoard 18 = .ok (.invokestatic 51, 3) := by decide +kernel
theorem dX10_ofBoard_21 : decode cX10_ofBoard 21 = .ok (.ifCond .eq 6, 3) := by decide +kernel
theorem dX10_ofBoard_24 : decode cX10_ofBoard 24 = .ok (.ldc 75, 2) := by decide +kernel
theorem dX10_ofBoard_26 : decode cX10_ofBoard 26 = .ok (.ireturn, 1) := by decide +kernel
theorem dX10_ofBoard_27 : decode cX10_ofBoard 27 = .ok (.iload_n 2, 1) := by decide +kernel
theorem dX10_ofBoard_28 : decode cX10_ofBoard 28 = .ok (.iconst 0, 1) := by decide +kernel
theorem dX10_ofBoard_29 : decode cX10_ofBoard 29 = .ok (.iconst 1, 1) := by decide +kernel
theorem dX10_ofBoard_30 : decode cX10_ofBoard 30 = .ok (.invokestatic 51, 3) := by decide +kernel
theorem dX10_ofBoard_33 : decode cX10_ofBoard 33 = .ok (.ifCond .eq 6, 3) := by decide +kernel
theorem dX10_ofBoard_36 : decode cX10_ofBoard 36 = .ok (.ldc 55, 2) := by decide +kernel
theorem dX10_ofBoard_38 : decode cX10_ofBoard 38 = .ok (.ireturn, 1) := by decide +kernel
theorem dX10_ofBoard_39 : decode cX10_ofBoard 39 = .ok (.iload_n 2, 1) := by decide +kernel
theorem dX10_ofBoard_40 : decode cX10_ofBoard 40 = .ok (.ifCond .ne 15, 3) := by decide +kernel
theorem dX10_ofBoard_43 : decode cX10_ofBoard 43 = .ok (.aload_n 0, 1) := by decide +kernel
theorem dX10_ofBoard_44 : decode cX10_ofBoard 44 = .ok (.getfield 26, 3) := by decide +kernel
theorem dX10_ofBoard_47 : decode cX10_ofBoard 47 = .ok (.getfield 170, 3) := by decide +kernel
theorem dX10_ofBoard_50 : decode cX10_ofBoard 50 = .ok (.iload_n 1, 1) := by decide +kernel
theorem dX10_ofBoard_51 : decode cX10_ofBoard 51 = .ok (.iaload, 1) := by decide +kernel
theorem dX10_ofBoard_52 : decode cX10_ofBoard 52 = .ok (.goto 12, 3) := by decide +kernel
theorem dX10_ofBoard_55 : decode cX10_ofBoard 55 = .ok (.aload_n 0, 1) := by decide +kernel
theorem dX10_ofBoard_56 : decode cX10_ofBoard 56 = .ok (.getfield 26, 3) := by decide +kernel
theorem dX10_ofBoard_59 : decode cX10_ofBoard 59 = .ok (.getfield 173, 3) := by decide +kernel
theorem dX10_ofBoard_62 : decode cX10_ofBoard 62 = .ok (.iload_n 1, 1) := by decide +kernel
theorem dX10_ofBoard_63 : decode cX10_ofBoard 63 = .ok (.iaload, 1) := by decide +kernel
theorem dX10_ofBoard_64 : decode cX10_ofBoard 64 = .ok (.ireturn, 1) := by decide +kernel
theorem dX10_other_0 : decode cX10_other 0 = .ok (.iload_n 1, 1) := by decide +kernel
theorem dX10_other_1 : decode cX10_other 1 = .ok (.iconst 1, 1) := by decide +kernel
theorem dX10_other_2 : decode cX10_other 2 = .ok (.sipush 400, 3) := by decide +kernel
theorem dX10_other_5 : decode cX10_other 5 = .ok (.invokestatic 51, 3) := by decide +kernel
theorem dX10_other_8 : decode cX10_other 8 = .ok (.ifCond .eq 6, 3) := by decide +kernel
theorem dX10_other_11 : decode cX10_other 11 = .ok (.ldc 55, 2) := by decide +kernel
theorem dX10_other_13 : decode cX10_other 13 = .ok (.ireturn, 1) := by decide +kernel
theorem dX10_other_14 : decode cX10_other 14 = .ok (.aload_n 0, 1) := by decide +kernel
