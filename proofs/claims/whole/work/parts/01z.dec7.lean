/-! decode rows (from claim/NAMES.whole.lean.txt) -/
theorem dX11_as_0 : decode cX11_as 0 = .ok (.aload_n 0, 1) := by decide +kernel
theorem dX11_as_1 : decode cX11_as 1 = .ok (.iload_n 1, 1) := by decide +kernel
theorem dX11_as_2 : decode cX11_as 2 = .ok (.invokevirtual 267, 3) := by decide +kernel
theorem dX11_as_5 : decode cX11_as 5 = .ok (.ifCond .ne 7, 3) := by decide +kernel
theorem dX11_as_8 : decode cX11_as 8 = .ok (.ldc2_w 270, 3) := by decide +kernel
theorem dX11_as_11 : decode cX11_as 11 = .ok (.lreturn, 1) := by decide +kernel
theorem dX11_as_12 : decode cX11_as 12 = .ok (.iload_n 2, 1) := by decide +kernel
theorem dX11_as_13 : decode cX11_as 13 = .ok (.i2l, 1) := by decide +kernel
theorem dX11_as_14 : decode cX11_as 14 = .ok (.lconst 0, 1) := by decide +kernel
theorem dX11_as_15 : decode cX11_as 15 = .ok (.aload_n 0, 1) := by decide +kernel
theorem dX11_as_16 : decode cX11_as 16 = .ok (.getfield 240, 3) := by decide +kernel
theorem dX11_as_19 : decode cX11_as 19 = .ok (.i2l, 1) := by decide +kernel
theorem dX11_as_20 : decode cX11_as 20 = .ok (.invokestatic 126, 3) := by decide +kernel
theorem dX11_as_23 : decode cX11_as 23 = .ok (.ifCond .eq 15, 3) := by decide +kernel
theorem dX11_as_26 : decode cX11_as 26 = .ok (.iload_n 3, 1) := by decide +kernel
theorem dX11_as_27 : decode cX11_as 27 = .ok (.i2l, 1) := by decide +kernel
theorem dX11_as_28 : decode cX11_as 28 = .ok (.lconst 0, 1) := by decide +kernel
theorem dX11_as_29 : decode cX11_as 29 = .ok (.ldc2_w 272, 3) := by decide +kernel
theorem dX11_as_32 : decode cX11_as 32 = .ok (.invokestatic 126, 3) := by decide +kernel
theorem dX11_as_35 : decode cX11_as 35 = .ok (.ifCond .ne 7, 3) := by decide +kernel
theorem dX11_as_38 : decode cX11_as 38 = .ok (.ldc2_w 274, 3) := by decide +kernel
theorem dX11_as_41 : decode cX11_as 41 = .ok (.lreturn, 1) := by decide +kernel
theorem dX11_as_42 : decode cX11_as 42 = .ok (.sipush 600, 3) := by decide +kernel
theorem dX11_as_45 : decode cX11_as 45 = .ok (.iload_n 1, 1) := by decide +kernel
theorem dX11_as_46 : decode cX11_as 46 = .ok (.imul, 1) := by decide +kernel
theorem dX11_as_47 : decode cX11_as 47 = .ok (.iload_n 2, 1) := by decide +kernel
theorem dX11_as_48 : decode cX11_as 48 = .ok (.iadd, 1) := by decide +kernel
theorem dX11_as_49 : decode cX11_as 49 = .ok (.istore 4, 2) := by decide +kernel
theorem dX11_as_51 : decode cX11_as 51 = .ok (.iload_n 3, 1) := by decide +kernel
theorem dX11_as_52 : decode cX11_as 52 = .ok (.ifCond .ne 13, 3) := by decide +kernel
theorem dX11_as_55 : decode cX11_as 55 = .ok (.aload_n 0, 1) := by decide +kernel
theorem dX11_as_56 : decode cX11_as 56 = .ok (.getfield 96, 3) := by decide +kernel
theorem dX11_as_59 : decode cX11_as 59 = .ok (.iload 4, 2) := by decide +kernel
theorem dX11_as_61 : decode cX11_as 61 = .ok (.laload, 1) := by decide +kernel
theorem dX11_as_62 : decode cX11_as 62 = .ok (.goto 26, 3) := by decide +kernel
theorem dX11_as_65 : decode cX11_as 65 = .ok (.iload_n 3, 1) := by decide +kernel
theorem dX11_as_66 : decode cX11_as 66 = .ok (.iconst 1, 1) := by decide +kernel
theorem dX11_as_67 : decode cX11_as 67 = .ok (.if_icmp .ne 13, 3) := by decide +kernel
theorem dX11_as_70 : decode cX11_as 70 = .ok (.aload_n 0, 1) := by decide +kernel
theorem dX11_as_71 : decode cX11_as 71 = .ok (.getfield 100, 3) := by decide +kernel
theorem dX11_as_74 : decode cX11_as 74 = .ok (.iload 4, 2) := by decide +kernel
theorem dX11_as_76 : decode cX11_as 76 = .ok (.laload, 1) := by decide +kernel
theorem dX11_as_77 : decode cX11_as 77 = .ok (.goto 11, 3) := by decide +kernel
theorem dX11_as_80 : decode cX11_as 80 = .ok (.aload_n 0, 1) := by decide +kernel
theorem dX11_as_81 : decode cX11_as 81 = .ok (.getfield 103, 3) := by decide +kernel
theorem dX11_as_84 : decode cX11_as 84 = .ok (.iload 4, 2) := by decide +kernel
theorem dX11_as_86 : decode cX11_as 86 = .ok (.iaload, 1) := by decide +kernel
theorem dX11_as_87 : decode cX11_as 87 = .ok (.i2l, 1) := by decide +kernel
theorem dX11_as_88 : decode cX11_as 88 = .ok (.lreturn, 1) := by decide +kernel
theorem dX11_arrears_0 : decode cX11_arrears 0 = .ok (.aload_n 0, 1) := by decide +kernel
theorem dX11_arrears_1 : decode cX11_arrears 1 = .ok (.iload_n 1, 1) := by decide +kernel
theorem dX11_arrears_2 : decode cX11_arrears 2 = .ok (.invokevirtual 267, 3) := by decide +kernel
theorem dX11_arrears_5 : decode cX11_arrears 5 = .ok (.ifCond .eq 25, 3) := by decide +kernel
theorem dX11_arrears_8 : decode cX11_arrears 8 = .ok (.aload_n 0, 1) := by decide +kernel
theorem dX11_arrears_9 : decode cX11_arrears 9 = .ok (.getfield 100, 3) := by decide +kernel
theorem dX11_arrears_12 : decode cX11_arrears 12 = .ok (.aload_n 0, 1) := by decide +kernel
theorem dX11_arrears_13 : decode cX11_arrears 13 = .ok (.iload_n 1, 1) := by decide +kernel
theorem dX11_arrears_14 : decode cX11_arrears 14 = .ok (.invokevirtual 249, 3) := by decide +kernel
theorem dX11_arrears_17 : decode cX11_arrears 17 = .ok (.laload, 1) := by decide +kernel
theorem dX11_arrears_18 : decode cX11_arrears 18 = .ok (.aload_n 0, 1) := by decide +kernel
theorem dX11_arrears_19 : decode cX11_arrears 19 = .ok (.getfield 87, 3) := by decide +kernel
theorem dX11_arrears_22 : decode cX11_arrears 22 = .ok (.iload_n 1, 1) := by decide +kernel
theorem dX11_arrears_23 : decode cX11_arrears 23 = .ok (.iaload, 1) := by decide +kernel
theorem dX11_arrears_24 : decode cX11_arrears 24 = .ok (.i2l, 1) := by decide +kernel
theorem dX11_arrears_25 : decode cX11_arrears 25 = .ok (.ldiv, 1) := by decide +kernel
theorem dX11_arrears_26 : decode cX11_arrears 26 = .ok (.l2i, 1) := by decide +kernel
theorem dX11_arrears_27 : decode cX11_arrears 27 = .ok (.goto 5, 3) := by decide +kernel
theorem dX11_arrears_30 : decode cX11_arrears 30 = .ok (.ldc 143, 2) := by decide +kernel
theorem dX11_arrears_32 : decode cX11_arrears 32 = .ok (.ireturn, 1) := by decide +kernel
theorem dX11_isTerm_0 : decode cX11_isTerm 0 = .ok (.iload_n 1, 1) := by decide +kernel
theorem dX11_isTerm_1 : decode cX11_isTerm 1 = .ok (.i2l, 1) := by decide +kernel
theorem dX11_isTerm_2 : decode cX11_isTerm 2 = .ok (.lconst 0, 1) := by decide +kernel
theorem dX11_isTerm_3 : decode cX11_isTerm 3 = .ok (.aload_n 0, 1) := by decide +kernel
theorem dX11_isTerm_4 : decode cX11_isTerm 4 = .ok (.getfield 276, 3) := by decide +kernel
theorem dX11_isTerm_7 : decode cX11_isTerm 7 = .ok (.iconst 1, 1) := by decide +kernel
theorem dX11_isTerm_8 : decode cX11_isTerm 8 = .ok (.isub, 1) := by decide +kernel
theorem dX11_isTerm_9 : decode cX11_isTerm 9 = .ok (.i2l, 1) := by decide +kernel
theorem dX11_isTerm_10 : decode cX11_isTerm 10 = .ok (.invokestatic 126, 3) := by decide +kernel
theorem dX11_isTerm_13 : decode cX11_isTerm 13 = .ok (.ireturn, 1) := by decide +kernel
theorem dX11_term_0 : decode cX11_term 0 = .ok (.iload_n 1, 1) := by decide +kernel
theorem dX11_term_1 : decode cX11_term 1 = .ok (.i2l, 1) := by decide +kernel
theorem dX11_term_2 : decode cX11_term 2 = .ok (.lconst 0, 1) := by decide +kernel
theorem dX11_term_3 : decode cX11_term 3 = .ok (.ldc2_w 279, 3) := by decide +kernel
theorem dX11_term_6 : decode cX11_term 6 = .ok (.invokestatic 126, 3) := by decide +kernel
theorem dX11_term_9 : decode cX11_term 9 = .ok (.ifCond .ne 6, 3) := by decide +kernel
theorem dX11_term_12 : decode cX11_term 12 = .ok (.ldc 130, 2) := by decide +kernel
theorem dX11_term_14 : decode cX11_term 14 = .ok (.ireturn, 1) := by decide +kernel
theorem dX11_term_15 : decode cX11_term 15 = .ok (.aload_n 0, 1) := by decide +kernel
theorem dX11_term_16 : decode cX11_term 16 = .ok (.getfield 276, 3) := by decide +kernel
theorem dX11_term_19 : decode cX11_term 19 = .ok (.iconst 4, 1) := by decide +kernel
theorem dX11_term_20 : decode cX11_term 20 = .ok (.if_icmp .ne 6, 3) := by decide +kernel
theorem dX11_term_23 : decode cX11_term 23 = .ok (.ldc 138, 2) := by decide +kernel
theorem dX11_term_25 : decode cX11_term 25 = .ok (.ireturn, 1) := by decide +kernel
theorem dX11_term_26 : decode cX11_term 26 = .ok (.aload_n 0, 1) := by decide +kernel
theorem dX11_term_27 : decode cX11_term 27 = .ok (.getfield 106, 3) := by decide +kernel
theorem dX11_term_30 : decode cX11_term 30 = .ok (.aload_n 0, 1) := by decide +kernel
theorem dX11_term_31 : decode cX11_term 31 = .ok (.getfield 276, 3) := by decide +kernel
theorem dX11_term_34 : decode cX11_term 34 = .ok (.iload_n 1, 1) := by decide +kernel
theorem dX11_term_35 : decode cX11_term 35 = .ok (.iastore, 1) := by decide +kernel
theorem dX11_term_36 : decode cX11_term 36 = .ok (.aload_n 0, 1) := by decide +kernel
theorem dX11_term_37 : decode cX11_term 37 = .ok (.dup, 1) := by decide +kernel
theorem dX11_term_38 : decode cX11_term 38 = .ok (.getfield 276, 3) := by decide +kernel
theorem dX11_term_41 : decode cX11_term 41 = .ok (.iconst 1, 1) := by decide +kernel
theorem dX11_term_42 : decode cX11_term 42 = .ok (.iadd, 1) := by decide +kernel
theorem dX11_term_43 : decode cX11_term 43 = .ok (.putfield 276, 3) := by decide +kernel
theorem dX11_term_46 : decode cX11_term 46 = .ok (.aload_n 0, 1) := by decide +kernel
theorem dX11_term_47 : decode cX11_term 47 = .ok (.getfield 276, 3) := by decide +kernel
theorem dX11_term_50 : decode cX11_term 50 = .ok (.iconst 1, 1) := by decide +kernel
theorem dX11_term_51 : decode cX11_term 51 = .ok (.isub, 1) := by decide +kernel
theorem dX11_term_52 : decode cX11_term 52 = .ok (.ireturn, 1) := by decide +kernel
theorem dX11_feed_0 : decode cX11_feed 0 = .ok (.aload_n 0, 1) := by decide +kernel
theorem dX11_feed_1 : decode cX11_feed 1 = .ok (.iload_n 1, 1) := by decide +kernel
theorem dX11_feed_2 : decode cX11_feed 2 = .ok (.invokevirtual 281, 3) := by decide +kernel
theorem dX11_feed_5 : decode cX11_feed 5 = .ok (.ifCond .ne 6, 3) := by decide +kernel
theorem dX11_feed_8 : decode cX11_feed 8 = .ok (.ldc 143, 2) := by decide +kernel
theorem dX11_feed_10 : decode cX11_feed 10 = .ok (.ireturn, 1) := by decide +kernel
theorem dX11_feed_11 : decode cX11_feed 11 = .ok (.iconst 0, 1) := by decide +kernel
theorem dX11_feed_12 : decode cX11_feed 12 = .ok (.istore 4, 2) := by decide +kernel
theorem dX11_feed_14 : decode cX11_feed 14 = .ok (.iload 4, 2) := by decide +kernel
theorem dX11_feed_16 : decode cX11_feed 16 = .ok (.bipush 8, 2) := by decide +kernel
theorem dX11_feed_18 : decode cX11_feed 18 = .ok (.if_icmp .ge 25, 3) := by decide +kernel
theorem dX11_feed_21 : decode cX11_feed 21 = .ok (.lload_n 2, 1) := by decide +kernel
theorem dX11_feed_22 : decode cX11_feed 22 = .ok (.bipush 8, 2) := by decide +kernel
theorem dX11_feed_24 : decode cX11_feed 24 = .ok (.iload 4, 2) := by decide +kernel
theorem dX11_feed_26 : decode cX11_feed 26 = .ok (.imul, 1) := by decide +kernel
theorem dX11_feed_27 : decode cX11_feed 27 = .ok (.lshr, 1) := by decide +kernel
theorem dX11_feed_28 : decode cX11_feed 28 = .ok (.ldc2_w 284, 3) := by decide +kernel
theorem dX11_feed_31 : decode cX11_feed 31 = .ok (.land, 1) := by decide +kernel
theorem dX11_feed_32 : decode cX11_feed 32 = .ok (.lconst 0, 1) := by decide +kernel
theorem dX11_feed_33 : decode cX11_feed 33 = .ok (.lcmp, 1) := by decide +kernel
theorem dX11_feed_34 : decode cX11_feed 34 = .ok (.ifCond .eq 9, 3) := by decide +kernel
theorem dX11_feed_37 : decode cX11_feed 37 = .ok (.iinc 4 1, 3) := by decide +kernel
theorem dX11_feed_40 : decode cX11_feed 40 = .ok (.goto (-26), 3) := by decide +kernel
theorem dX11_feed_43 : decode cX11_feed 43 = .ok (.aload_n 0, 1) := by decide +kernel
theorem dX11_feed_44 : decode cX11_feed 44 = .ok (.getfield 109, 3) := by decide +kernel
theorem dX11_feed_47 : decode cX11_feed 47 = .ok (.iload_n 1, 1) := by decide +kernel
theorem dX11_feed_48 : decode cX11_feed 48 = .ok (.iaload, 1) := by decide +kernel
theorem dX11_feed_49 : decode cX11_feed 49 = .ok (.iload 4, 2) := by decide +kernel
theorem dX11_feed_51 : decode cX11_feed 51 = .ok (.iadd, 1) := by decide +kernel
theorem dX11_feed_52 : decode cX11_feed 52 = .ok (.bipush 60, 2) := by decide +kernel
theorem dX11_feed_54 : decode cX11_feed 54 = .ok (.if_icmp .le 6, 3) := by decide +kernel
theorem dX11_feed_57 : decode cX11_feed 57 = .ok (.ldc 138, 2) := by decide +kernel
theorem dX11_feed_59 : decode cX11_feed 59 = .ok (.ireturn, 1) := by decide +kernel
theorem dX11_feed_60 : decode cX11_feed 60 = .ok (.iconst 0, 1) := by decide +kernel
theorem dX11_feed_61 : decode cX11_feed 61 = .ok (.istore 5, 2) := by decide +kernel
theorem dX11_feed_63 : decode cX11_feed 63 = .ok (.iload 5, 2) := by decide +kernel
theorem dX11_feed_65 : decode cX11_feed 65 = .ok (.iload 4, 2) := by decide +kernel
theorem dX11_feed_67 : decode cX11_feed 67 = .ok (.if_icmp .ge 40, 3) := by decide +kernel
theorem dX11_feed_70 : decode cX11_feed 70 = .ok (.aload_n 0, 1) := by decide +kernel
theorem dX11_feed_71 : decode cX11_feed 71 = .ok (.getfield 112, 3) := by decide +kernel
theorem dX11_feed_74 : decode cX11_feed 74 = .ok (.bipush 60, 2) := by decide +kernel
theorem dX11_feed_76 : decode cX11_feed 76 = .ok (.iload_n 1, 1) := by decide +kernel
theorem dX11_feed_77 : decode cX11_feed 77 = .ok (.imul, 1) := by decide +kernel
theorem dX11_feed_78 : decode cX11_feed 78 = .ok (.aload_n 0, 1) := by decide +kernel
theorem dX11_feed_79 : decode cX11_feed 79 = .ok (.getfield 109, 3) := by decide +kernel
theorem dX11_feed_82 : decode cX11_feed 82 = .ok (.iload_n 1, 1) := by decide +kernel
theorem dX11_feed_83 : decode cX11_feed 83 = .ok (.iaload, 1) := by decide +kernel
theorem dX11_feed_84 : decode cX11_feed 84 = .ok (.iadd, 1) := by decide +kernel
theorem dX11_feed_85 : decode cX11_feed 85 = .ok (.iload 5, 2) := by decide +kernel
theorem dX11_feed_87 : decode cX11_feed 87 = .ok (.iadd, 1) := by decide +kernel
theorem dX11_feed_88 : decode cX11_feed 88 = .ok (.lload_n 2, 1) := by decide +kernel
theorem dX11_feed_89 : decode cX11_feed 89 = .ok (.bipush 8, 2) := by decide +kernel
theorem dX11_feed_91 : decode cX11_feed 91 = .ok (.iload 5, 2) := by decide +kernel
theorem dX11_feed_93 : decode cX11_feed 93 = .ok (.imul, 1) := by decide +kernel
theorem dX11_feed_94 : decode cX11_feed 94 = .ok (.lshr, 1) := by decide +kernel
theorem dX11_feed_95 : decode cX11_feed 95 = .ok (.ldc2_w 284, 3) := by decide +kernel
theorem dX11_feed_98 : decode cX11_feed 98 = .ok (.land, 1) := by decide +kernel
theorem dX11_feed_99 : decode cX11_feed 99 = .ok (.l2i, 1) := by decide +kernel
theorem dX11_feed_100 : decode cX11_feed 100 = .ok (.iastore, 1) := by decide +kernel
theorem dX11_feed_101 : decode cX11_feed 101 = .ok (.iinc 5 1, 3) := by decide +kernel
theorem dX11_feed_104 : decode cX11_feed 104 = .ok (.goto (-41), 3) := by decide +kernel
theorem dX11_feed_107 : decode cX11_feed 107 = .ok (.aload_n 0, 1) := by decide +kernel
theorem dX11_feed_108 : decode cX11_feed 108 = .ok (.getfield 109, 3) := by decide +kernel
theorem dX11_feed_111 : decode cX11_feed 111 = .ok (.iload_n 1, 1) := by decide +kernel
theorem dX11_feed_112 : decode cX11_feed 112 = .ok (.dup2, 1) := by decide +kernel
theorem dX11_feed_113 : decode cX11_feed 113 = .ok (.iaload, 1) := by decide +kernel
theorem dX11_feed_114 : decode cX11_feed 114 = .ok (.iload 4, 2) := by decide +kernel
theorem dX11_feed_116 : decode cX11_feed 116 = .ok (.iadd, 1) := by decide +kernel
theorem dX11_feed_117 : decode cX11_feed 117 = .ok (.iastore, 1) := by decide +kernel
theorem dX11_feed_118 : decode cX11_feed 118 = .ok (.aload_n 0, 1) := by decide +kernel
theorem dX11_feed_119 : decode cX11_feed 119 = .ok (.getfield 109, 3) := by decide +kernel
theorem dX11_feed_122 : decode cX11_feed 122 = .ok (.iload_n 1, 1) := by decide +kernel
theorem dX11_feed_123 : decode cX11_feed 123 = .ok (.iaload, 1) := by decide +kernel
theorem dX11_feed_124 : decode cX11_feed 124 = .ok (.ireturn, 1) := by decide +kernel
theorem dX11_peek_0 : decode cX11_peek 0 = .ok (.aload_n 0, 1) := by decide +kernel
theorem dX11_peek_1 : decode cX11_peek 1 = .ok (.getfield 286, 3) := by decide +kernel
theorem dX11_peek_4 : decode cX11_peek 4 = .ok (.aload_n 0, 1) := by decide +kernel
theorem dX11_peek_5 : decode cX11_peek 5 = .ok (.getfield 109, 3) := by decide +kernel
theorem dX11_peek_8 : decode cX11_peek 8 = .ok (.iload_n 1, 1) := by decide +kernel
theorem dX11_peek_9 : decode cX11_peek 9 = .ok (.iaload, 1) := by decide +kernel
theorem dX11_peek_10 : decode cX11_peek 10 = .ok (.if_icmp .ge 35, 3) := by decide +kernel
theorem dX11_peek_13 : decode cX11_peek 13 = .ok (.aload_n 0, 1) := by decide +kernel
theorem dX11_peek_14 : decode cX11_peek 14 = .ok (.getfield 112, 3) := by decide +kernel
theorem dX11_peek_17 : decode cX11_peek 17 = .ok (.bipush 60, 2) := by decide +kernel
theorem dX11_peek_19 : decode cX11_peek 19 = .ok (.iload_n 1, 1) := by decide +kernel
theorem dX11_peek_20 : decode cX11_peek 20 = .ok (.imul, 1) := by decide +kernel
theorem dX11_peek_21 : decode cX11_peek 21 = .ok (.aload_n 0, 1) := by decide +kernel
theorem dX11_peek_22 : decode cX11_peek 22 = .ok (.getfield 286, 3) := by decide +kernel
theorem dX11_peek_25 : decode cX11_peek 25 = .ok (.iadd, 1) := by decide +kernel
theorem dX11_peek_26 : decode cX11_peek 26 = .ok (.iaload, 1) := by decide +kernel
theorem dX11_peek_27 : decode cX11_peek 27 = .ok (.bipush 32, 2) := by decide +kernel
theorem dX11_peek_29 : decode cX11_peek 29 = .ok (.if_icmp .ne 16, 3) := by decide +kernel
theorem dX11_peek_32 : decode cX11_peek 32 = .ok (.aload_n 0, 1) := by decide +kernel
theorem dX11_peek_33 : decode cX11_peek 33 = .ok (.dup, 1) := by decide +kernel
theorem dX11_peek_34 : decode cX11_peek 34 = .ok (.getfield 286, 3) := by decide +kernel
theorem dX11_peek_37 : decode cX11_peek 37 = .ok (.iconst 1, 1) := by decide +kernel
theorem dX11_peek_38 : decode cX11_peek 38 = .ok (.iadd, 1) := by decide +kernel
theorem dX11_peek_39 : decode cX11_peek 39 = .ok (.putfield 286, 3) := by decide +kernel
theorem dX11_peek_42 : decode cX11_peek 42 = .ok (.goto (-42), 3) := by decide +kernel
theorem dX11_peek_45 : decode cX11_peek 45 = .ok (.aload_n 0, 1) := by decide +kernel
theorem dX11_peek_46 : decode cX11_peek 46 = .ok (.getfield 286, 3) := by decide +kernel
theorem dX11_peek_49 : decode cX11_peek 49 = .ok (.aload_n 0, 1) := by decide +kernel
theorem dX11_peek_50 : decode cX11_peek 50 = .ok (.getfield 109, 3) := by decide +kernel
theorem dX11_peek_53 : decode cX11_peek 53 = .ok (.iload_n 1, 1) := by decide +kernel
theorem dX11_peek_54 : decode cX11_peek 54 = .ok (.iaload, 1) := by decide +kernel
theorem dX11_peek_55 : decode cX11_peek 55 = .ok (.if_icmp .ge 20, 3) := by decide +kernel
theorem dX11_peek_58 : decode cX11_peek 58 = .ok (.aload_n 0, 1) := by decide +kernel
theorem dX11_peek_59 : decode cX11_peek 59 = .ok (.getfield 112, 3) := by decide +kernel
theorem dX11_peek_62 : decode cX11_peek 62 = .ok (.bipush 60, 2) := by decide +kernel
theorem dX11_peek_64 : decode cX11_peek 64 = .ok (.iload_n 1, 1) := by decide +kernel
theorem dX11_peek_65 : decode cX11_peek 65 = .ok (.imul, 1) := by decide +kernel
theorem dX11_peek_66 : decode cX11_peek 66 = .ok (.aload_n 0, 1) := by decide +kernel
theorem dX11_peek_67 : decode cX11_peek 67 = .ok (.getfield 286, 3) := by decide +kernel
theorem dX11_peek_70 : decode cX11_peek 70 = .ok (.iadd, 1) := by decide +kernel
theorem dX11_peek_71 : decode cX11_peek 71 = .ok (.iaload, 1) := by decide +kernel
theorem dX11_peek_72 : decode cX11_peek 72 = .ok (.goto 4, 3) := by decide +kernel
theorem dX11_peek_75 : decode cX11_peek 75 = .ok (.iconst 0, 1) := by decide +kernel
theorem dX11_peek_76 : decode cX11_peek 76 = .ok (.ireturn, 1) := by decide +kernel
theorem dX11_letterValue_0 : decode cX11_letterValue 0 = .ok (.iload_n 0, 1) := by decide +kernel
theorem dX11_letterValue_1 : decode cX11_letterValue 1 = .ok (.lookupswitch 61 #[(97, 51), (100, 53), (109, 57), (111, 55), (119, 59)], 51) := by decide +kernel
theorem dX11_letterValue_52 : decode cX11_letterValue 52 = .ok (.iconst 0, 1) := by decide +kernel
theorem dX11_letterValue_53 : decode cX11_letterValue 53 = .ok (.ireturn, 1) := by decide +kernel
theorem dX11_letterValue_54 : decode cX11_letterValue 54 = .ok (.iconst 1, 1) := by decide +kernel
theorem dX11_letterValue_55 : decode cX11_letterValue 55 = .ok (.ireturn, 1) := by decide +kernel
theorem dX11_letterValue_56 : decode cX11_letterValue 56 = .ok (.iconst 2, 1) := by decide +kernel
theorem dX11_letterValue_57 : decode cX11_letterValue 57 = .ok (.ireturn, 1) := by decide +kernel
theorem dX11_letterValue_58 : decode cX11_letterValue 58 = .ok (.iconst 3, 1) := by decide +kernel
theorem dX11_letterValue_59 : decode cX11_letterValue 59 = .ok (.ireturn, 1) := by decide +kernel
theorem dX11_letterValue_60 : decode cX11_letterValue 60 = .ok (.iconst 4, 1) := by decide +kernel
theorem dX11_letterValue_61 : decode cX11_letterValue 61 = .ok (.ireturn, 1) := by decide +kernel
theorem dX11_letterValue_62 : decode cX11_letterValue 62 = .ok (.ldc 152, 2) := by decide +kernel
theorem dX11_letterValue_64 : decode cX11_letterValue 64 = .ok (.ireturn, 1) := by decide +kernel
theorem dX11_takeAsking_0 : decode cX11_takeAsking 0 = .ok (.aload_n 0, 1) := by decide +kernel
theorem dX11_takeAsking_1 : decode cX11_takeAsking 1 = .ok (.iload_n 1, 1) := by decide +kernel
theorem dX11_takeAsking_2 : decode cX11_takeAsking 2 = .ok (.invokevirtual 289, 3) := by decide +kernel
theorem dX11_takeAsking_5 : decode cX11_takeAsking 5 = .ok (.invokestatic 292, 3) := by decide +kernel
theorem dX11_takeAsking_8 : decode cX11_takeAsking 8 = .ok (.istore_n 2, 1) := by decide +kernel
theorem dX11_takeAsking_9 : decode cX11_takeAsking 9 = .ok (.iload_n 2, 1) := by decide +kernel
theorem dX11_takeAsking_10 : decode cX11_takeAsking 10 = .ok (.ldc 152, 2) := by decide +kernel
theorem dX11_takeAsking_12 : decode cX11_takeAsking 12 = .ok (.if_icmp .ne 5, 3) := by decide +kernel
theorem dX11_takeAsking_15 : decode cX11_takeAsking 15 = .ok (.iconst 0, 1) := by decide +kernel
theorem dX11_takeAsking_16 : decode cX11_takeAsking 16 = .ok (.ireturn, 1) := by decide +kernel
theorem dX11_takeAsking_17 : decode cX11_takeAsking 17 = .ok (.aload_n 0, 1) := by decide +kernel
theorem dX11_takeAsking_18 : decode cX11_takeAsking 18 = .ok (.dup, 1) := by decide +kernel
theorem dX11_takeAsking_19 : decode cX11_takeAsking 19 = .ok (.getfield 286, 3) := by decide +kernel
theorem dX11_takeAsking_22 : decode cX11_takeAsking 22 = .ok (.iconst 1, 1) := by decide +kernel
theorem dX11_takeAsking_23 : decode cX11_takeAsking 23 = .ok (.iadd, 1) := by decide +kernel
theorem dX11_takeAsking_24 : decode cX11_takeAsking 24 = .ok (.putfield 286, 3) := by decide +kernel
theorem dX11_takeAsking_27 : decode cX11_takeAsking 27 = .ok (.aload_n 0, 1) := by decide +kernel
theorem dX11_takeAsking_28 : decode cX11_takeAsking 28 = .ok (.iload_n 1, 1) := by decide +kernel
theorem dX11_takeAsking_29 : decode cX11_takeAsking 29 = .ok (.invokevirtual 289, 3) := by decide +kernel
theorem dX11_takeAsking_32 : decode cX11_takeAsking 32 = .ok (.istore_n 3, 1) := by decide +kernel
theorem dX11_takeAsking_33 : decode cX11_takeAsking 33 = .ok (.iload_n 3, 1) := by decide +kernel
theorem dX11_takeAsking_34 : decode cX11_takeAsking 34 = .ok (.i2l, 1) := by decide +kernel
theorem dX11_takeAsking_35 : decode cX11_takeAsking 35 = .ok (.ldc2_w 261, 3) := by decide +kernel
theorem dX11_takeAsking_38 : decode cX11_takeAsking 38 = .ok (.ldc2_w 295, 3) := by decide +kernel
theorem dX11_takeAsking_41 : decode cX11_takeAsking 41 = .ok (.invokestatic 126, 3) := by decide +kernel
theorem dX11_takeAsking_44 : decode cX11_takeAsking 44 = .ok (.ifCond .ne 5, 3) := by decide +kernel
theorem dX11_takeAsking_47 : decode cX11_takeAsking 47 = .ok (.iconst 0, 1) := by decide +kernel
theorem dX11_takeAsking_48 : decode cX11_takeAsking 48 = .ok (.ireturn, 1) := by decide +kernel
theorem dX11_takeAsking_49 : decode cX11_takeAsking 49 = .ok (.aload_n 0, 1) := by decide +kernel
theorem dX11_takeAsking_50 : decode cX11_takeAsking 50 = .ok (.dup, 1) := by decide +kernel
theorem dX11_takeAsking_51 : decode cX11_takeAsking 51 = .ok (.getfield 286, 3) := by decide +kernel
theorem dX11_takeAsking_54 : decode cX11_takeAsking 54 = .ok (.iconst 1, 1) := by decide +kernel
theorem dX11_takeAsking_55 : decode cX11_takeAsking 55 = .ok (.iadd, 1) := by decide +kernel
theorem dX11_takeAsking_56 : decode cX11_takeAsking 56 = .ok (.putfield 286, 3) := by decide +kernel
theorem dX11_takeAsking_59 : decode cX11_takeAsking 59 = .ok (.aload_n 0, 1) := by decide +kernel
theorem dX11_takeAsking_60 : decode cX11_takeAsking 60 = .ok (.iload_n 1, 1) := by decide +kernel
theorem dX11_takeAsking_61 : decode cX11_takeAsking 61 = .ok (.invokevirtual 289, 3) := by decide +kernel
theorem dX11_takeAsking_64 : decode cX11_takeAsking 64 = .ok (.i2l, 1) := by decide +kernel
theorem dX11_takeAsking_65 : decode cX11_takeAsking 65 = .ok (.ldc2_w 297, 3) := by decide +kernel
theorem dX11_takeAsking_68 : decode cX11_takeAsking 68 = .ok (.ldc2_w 299, 3) := by decide +kernel
theorem dX11_takeAsking_71 : decode cX11_takeAsking 71 = .ok (.invokestatic 126, 3) := by decide +kernel
theorem dX11_takeAsking_74 : decode cX11_takeAsking 74 = .ok (.ifCond .ne 5, 3) := by decide +kernel
theorem dX11_takeAsking_77 : decode cX11_takeAsking 77 = .ok (.iconst 0, 1) := by decide +kernel
theorem dX11_takeAsking_78 : decode cX11_takeAsking 78 = .ok (.ireturn, 1) := by decide +kernel
theorem dX11_takeAsking_79 : decode cX11_takeAsking 79 = .ok (.iconst 0, 1) := by decide +kernel
theorem dX11_takeAsking_80 : decode cX11_takeAsking 80 = .ok (.istore 4, 2) := by decide +kernel
theorem dX11_takeAsking_82 : decode cX11_takeAsking 82 = .ok (.iconst 0, 1) := by decide +kernel
theorem dX11_takeAsking_83 : decode cX11_takeAsking 83 = .ok (.istore 5, 2) := by decide +kernel
theorem dX11_takeAsking_85 : decode cX11_takeAsking 85 = .ok (.iload 5, 2) := by decide +kernel
theorem dX11_takeAsking_87 : decode cX11_takeAsking 87 = .ok (.iconst 5, 1) := by decide +kernel
theorem dX11_takeAsking_88 : decode cX11_takeAsking 88 = .ok (.if_icmp .ge 84, 3) := by decide +kernel
theorem dX11_takeAsking_91 : decode cX11_takeAsking 91 = .ok (.aload_n 0, 1) := by decide +kernel
theorem dX11_takeAsking_92 : decode cX11_takeAsking 92 = .ok (.getfield 286, 3) := by decide +kernel
theorem dX11_takeAsking_95 : decode cX11_takeAsking 95 = .ok (.aload_n 0, 1) := by decide +kernel
theorem dX11_takeAsking_96 : decode cX11_takeAsking 96 = .ok (.getfield 109, 3) := by decide +kernel
theorem dX11_takeAsking_99 : decode cX11_takeAsking 99 = .ok (.iload_n 1, 1) := by decide +kernel
theorem dX11_takeAsking_100 : decode cX11_takeAsking 100 = .ok (.iaload, 1) := by decide +kernel
theorem dX11_takeAsking_101 : decode cX11_takeAsking 101 = .ok (.if_icmp .ge 71, 3) := by decide +kernel
theorem dX11_takeAsking_104 : decode cX11_takeAsking 104 = .ok (.aload_n 0, 1) := by decide +kernel
theorem dX11_takeAsking_105 : decode cX11_takeAsking 105 = .ok (.getfield 112, 3) := by decide +kernel
theorem dX11_takeAsking_108 : decode cX11_takeAsking 108 = .ok (.bipush 60, 2) := by decide +kernel
theorem dX11_takeAsking_110 : decode cX11_takeAsking 110 = .ok (.iload_n 1, 1) := by decide +kernel
theorem dX11_takeAsking_111 : decode cX11_takeAsking 111 = .ok (.imul, 1) := by decide +kernel
theorem dX11_takeAsking_112 : decode cX11_takeAsking 112 = .ok (.aload_n 0, 1) := by decide +kernel
theorem dX11_takeAsking_113 : decode cX11_takeAsking 113 = .ok (.getfield 286, 3) := by decide +kernel
theorem dX11_takeAsking_116 : decode cX11_takeAsking 116 = .ok (.iadd, 1) := by decide +kernel
theorem dX11_takeAsking_117 : decode cX11_takeAsking 117 = .ok (.iaload, 1) := by decide +kernel
theorem dX11_takeAsking_118 : decode cX11_takeAsking 118 = .ok (.i2l, 1) := by decide +kernel
theorem dX11_takeAsking_119 : decode cX11_takeAsking 119 = .ok (.ldc2_w 297, 3) := by decide +kernel
theorem dX11_takeAsking_122 : decode cX11_takeAsking 122 = .ok (.ldc2_w 299, 3) := by decide +kernel
theorem dX11_takeAsking_125 : decode cX11_takeAsking 125 = .ok (.invokestatic 126, 3) := by decide +kernel
theorem dX11_takeAsking_128 : decode cX11_takeAsking 128 = .ok (.ifCond .eq 44, 3) := by decide +kernel
theorem dX11_takeAsking_131 : decode cX11_takeAsking 131 = .ok (.bipush 10, 2) := by decide +kernel
theorem dX11_takeAsking_133 : decode cX11_takeAsking 133 = .ok (.iload 4, 2) := by decide +kernel
theorem dX11_takeAsking_135 : decode cX11_takeAsking 135 = .ok (.imul, 1) := by decide +kernel
theorem dX11_takeAsking_136 : decode cX11_takeAsking 136 = .ok (.aload_n 0, 1) := by decide +kernel
theorem dX11_takeAsking_137 : decode cX11_takeAsking 137 = .ok (.getfield 112, 3) := by decide +kernel
theorem dX11_takeAsking_140 : decode cX11_takeAsking 140 = .ok (.bipush 60, 2) := by decide +kernel
theorem dX11_takeAsking_142 : decode cX11_takeAsking 142 = .ok (.iload_n 1, 1) := by decide +kernel
theorem dX11_takeAsking_143 : decode cX11_takeAsking 143 = .ok (.imul, 1) := by decide +kernel
theorem dX11_takeAsking_144 : decode cX11_takeAsking 144 = .ok (.aload_n 0, 1) := by decide +kernel
theorem dX11_takeAsking_145 : decode cX11_takeAsking 145 = .ok (.getfield 286, 3) := by decide +kernel
theorem dX11_takeAsking_148 : decode cX11_takeAsking 148 = .ok (.iadd, 1) := by decide +kernel
theorem dX11_takeAsking_149 : decode cX11_takeAsking 149 = .ok (.iaload, 1) := by decide +kernel
theorem dX11_takeAsking_150 : decode cX11_takeAsking 150 = .ok (.iadd, 1) := by decide +kernel
theorem dX11_takeAsking_151 : decode cX11_takeAsking 151 = .ok (.bipush 48, 2) := by decide +kernel
theorem dX11_takeAsking_153 : decode cX11_takeAsking 153 = .ok (.isub, 1) := by decide +kernel
theorem dX11_takeAsking_154 : decode cX11_takeAsking 154 = .ok (.istore 4, 2) := by decide +kernel
theorem dX11_takeAsking_156 : decode cX11_takeAsking 156 = .ok (.aload_n 0, 1) := by decide +kernel
theorem dX11_takeAsking_157 : decode cX11_takeAsking 157 = .ok (.dup, 1) := by decide +kernel
theorem dX11_takeAsking_158 : decode cX11_takeAsking 158 = .ok (.getfield 286, 3) := by decide +kernel
theorem dX11_takeAsking_161 : decode cX11_takeAsking 161 = .ok (.iconst 1, 1) := by decide +kernel
theorem dX11_takeAsking_162 : decode cX11_takeAsking 162 = .ok (.iadd, 1) := by decide +kernel
theorem dX11_takeAsking_163 : decode cX11_takeAsking 163 = .ok (.putfield 286, 3) := by decide +kernel
theorem dX11_takeAsking_166 : decode cX11_takeAsking 166 = .ok (.iinc 5 1, 3) := by decide +kernel
theorem dX11_takeAsking_169 : decode cX11_takeAsking 169 = .ok (.goto (-84), 3) := by decide +kernel
theorem dX11_takeAsking_172 : decode cX11_takeAsking 172 = .ok (.aload_n 0, 1) := by decide +kernel
theorem dX11_takeAsking_173 : decode cX11_takeAsking 173 = .ok (.getfield 118, 3) := by decide +kernel
theorem dX11_takeAsking_176 : decode cX11_takeAsking 176 = .ok (.aload_n 0, 1) := by decide +kernel
theorem dX11_takeAsking_177 : decode cX11_takeAsking 177 = .ok (.getfield 301, 3) := by decide +kernel
theorem dX11_takeAsking_180 : decode cX11_takeAsking 180 = .ok (.iload_n 3, 1) := by decide +kernel
theorem dX11_takeAsking_181 : decode cX11_takeAsking 181 = .ok (.bipush 60, 2) := by decide +kernel
theorem dX11_takeAsking_183 : decode cX11_takeAsking 183 = .ok (.if_icmp .ne 24, 3) := by decide +kernel
theorem dX11_takeAsking_186 : decode cX11_takeAsking 186 = .ok (.aload_n 0, 1) := by decide +kernel
theorem dX11_takeAsking_187 : decode cX11_takeAsking 187 = .ok (.getfield 121, 3) := by decide +kernel
theorem dX11_takeAsking_190 : decode cX11_takeAsking 190 = .ok (.iload_n 2, 1) := by decide +kernel
theorem dX11_takeAsking_191 : decode cX11_takeAsking 191 = .ok (.laload, 1) := by decide +kernel
theorem dX11_takeAsking_192 : decode cX11_takeAsking 192 = .ok (.iload 4, 2) := by decide +kernel
theorem dX11_takeAsking_194 : decode cX11_takeAsking 194 = .ok (.i2l, 1) := by decide +kernel
theorem dX11_takeAsking_195 : decode cX11_takeAsking 195 = .ok (.lcmp, 1) := by decide +kernel
theorem dX11_takeAsking_196 : decode cX11_takeAsking 196 = .ok (.ifCond .ge 7, 3) := by decide +kernel
theorem dX11_takeAsking_199 : decode cX11_takeAsking 199 = .ok (.iconst 1, 1) := by decide +kernel
theorem dX11_takeAsking_200 : decode cX11_takeAsking 200 = .ok (.goto 52, 3) := by decide +kernel
theorem dX11_takeAsking_203 : decode cX11_takeAsking 203 = .ok (.iconst 0, 1) := by decide +kernel
theorem dX11_takeAsking_204 : decode cX11_takeAsking 204 = .ok (.goto 48, 3) := by decide +kernel
theorem dX11_takeAsking_207 : decode cX11_takeAsking 207 = .ok (.iload_n 3, 1) := by decide +kernel
theorem dX11_takeAsking_208 : decode cX11_takeAsking 208 = .ok (.bipush 61, 2) := by decide +kernel
theorem dX11_takeAsking_210 : decode cX11_takeAsking 210 = .ok (.if_icmp .ne 24, 3) := by decide +kernel
theorem dX11_takeAsking_213 : decode cX11_takeAsking 213 = .ok (.aload_n 0, 1) := by decide +kernel
theorem dX11_takeAsking_214 : decode cX11_takeAsking 214 = .ok (.getfield 121, 3) := by decide +kernel
theorem dX11_takeAsking_217 : decode cX11_takeAsking 217 = .ok (.iload_n 2, 1) := by decide +kernel
theorem dX11_takeAsking_218 : decode cX11_takeAsking 218 = .ok (.laload, 1) := by decide +kernel
theorem dX11_takeAsking_219 : decode cX11_takeAsking 219 = .ok (.iload 4, 2) := by decide +kernel
theorem dX11_takeAsking_221 : decode cX11_takeAsking 221 = .ok (.i2l, 1) := by decide +kernel
theorem dX11_takeAsking_222 : decode cX11_takeAsking 222 = .ok (.lcmp, 1) := by decide +kernel
theorem dX11_takeAsking_223 : decode cX11_takeAsking 223 = .ok (.ifCond .ne 7, 3) := by decide +kernel
theorem dX11_takeAsking_226 : decode cX11_takeAsking 226 = .ok (.iconst 1, 1) := by decide +kernel
theorem dX11_takeAsking_227 : decode cX11_takeAsking 227 = .ok (.goto 25, 3) := by decide +kernel
theorem dX11_takeAsking_230 : decode cX11_takeAsking 230 = .ok (.iconst 0, 1) := by decide +kernel
theorem dX11_takeAsking_231 : decode cX11_takeAsking 231 = .ok (.goto 21, 3) := by decide +kernel
theorem dX11_takeAsking_234 : decode cX11_takeAsking 234 = .ok (.aload_n 0, 1) := by decide +kernel
theorem dX11_takeAsking_235 : decode cX11_takeAsking 235 = .ok (.getfield 121, 3) := by decide +kernel
theorem dX11_takeAsking_238 : decode cX11_takeAsking 238 = .ok (.iload_n 2, 1) := by decide +kernel
theorem dX11_takeAsking_239 : decode cX11_takeAsking 239 = .ok (.laload, 1) := by decide +kernel
theorem dX11_takeAsking_240 : decode cX11_takeAsking 240 = .ok (.iload 4, 2) := by decide +kernel
theorem dX11_takeAsking_242 : decode cX11_takeAsking 242 = .ok (.i2l, 1) := by decide +kernel
theorem dX11_takeAsking_243 : decode cX11_takeAsking 243 = .ok (.lcmp, 1) := by decide +kernel
theorem dX11_takeAsking_244 : decode cX11_takeAsking 244 = .ok (.ifCond .le 7, 3) := by decide +kernel
theorem dX11_takeAsking_247 : decode cX11_takeAsking 247 = .ok (.iconst 1, 1) := by decide +kernel
theorem dX11_takeAsking_248 : decode cX11_takeAsking 248 = .ok (.goto 4, 3) := by decide +kernel
theorem dX11_takeAsking_251 : decode cX11_takeAsking 251 = .ok (.iconst 0, 1) := by decide +kernel
theorem dX11_takeAsking_252 : decode cX11_takeAsking 252 = .ok (.bastore, 1) := by decide +kernel
theorem dX11_takeAsking_253 : decode cX11_takeAsking 253 = .ok (.aload_n 0, 1) := by decide +kernel
theorem dX11_takeAsking_254 : decode cX11_takeAsking 254 = .ok (.dup, 1) := by decide +kernel
theorem dX11_takeAsking_255 : decode cX11_takeAsking 255 = .ok (.getfield 301, 3) := by decide +kernel
theorem dX11_takeAsking_258 : decode cX11_takeAsking 258 = .ok (.iconst 1, 1) := by decide +kernel
theorem dX11_takeAsking_259 : decode cX11_takeAsking 259 = .ok (.iadd, 1) := by decide +kernel
theorem dX11_takeAsking_260 : decode cX11_takeAsking 260 = .ok (.putfield 301, 3) := by decide +kernel
theorem dX11_takeAsking_263 : decode cX11_takeAsking 263 = .ok (.iconst 1, 1) := by decide +kernel
theorem dX11_takeAsking_264 : decode cX11_takeAsking 264 = .ok (.ireturn, 1) := by decide +kernel
theorem dX11_binds_0 : decode cX11_binds 0 = .ok (.iload_n 0, 1) := by decide +kernel
theorem dX11_binds_1 : decode cX11_binds 1 = .ok (.bipush 33, 2) := by decide +kernel
theorem dX11_binds_3 : decode cX11_binds 3 = .ok (.if_icmp .ne 7, 3) := by decide +kernel
theorem dX11_binds_6 : decode cX11_binds 6 = .ok (.iconst 3, 1) := by decide +kernel
theorem dX11_binds_7 : decode cX11_binds 7 = .ok (.goto 24, 3) := by decide +kernel
theorem dX11_binds_10 : decode cX11_binds 10 = .ok (.iload_n 0, 1) := by decide +kernel
theorem dX11_binds_11 : decode cX11_binds 11 = .ok (.bipush 38, 2) := by decide +kernel
theorem dX11_binds_13 : decode cX11_binds 13 = .ok (.if_icmp .ne 7, 3) := by decide +kernel
theorem dX11_binds_16 : decode cX11_binds 16 = .ok (.iconst 2, 1) := by decide +kernel
theorem dX11_binds_17 : decode cX11_binds 17 = .ok (.goto 14, 3) := by decide +kernel
theorem dX11_binds_20 : decode cX11_binds 20 = .ok (.iload_n 0, 1) := by decide +kernel
theorem dX11_binds_21 : decode cX11_binds 21 = .ok (.bipush 124, 2) := by decide +kernel
theorem dX11_binds_23 : decode cX11_binds 23 = .ok (.if_icmp .ne 7, 3) := by decide +kernel
theorem dX11_binds_26 : decode cX11_binds 26 = .ok (.iconst 1, 1) := by decide +kernel
theorem dX11_binds_27 : decode cX11_binds 27 = .ok (.goto 4, 3) := by decide +kernel
theorem dX11_binds_30 : decode cX11_binds 30 = .ok (.iconst 0, 1) := by decide +kernel
theorem dX11_binds_31 : decode cX11_binds 31 = .ok (.ireturn, 1) := by decide +kernel
theorem dX11_closeTo_0 : decode cX11_closeTo 0 = .ok (.aload_n 0, 1) := by decide +kernel
theorem dX11_closeTo_1 : decode cX11_closeTo 1 = .ok (.getfield 304, 3) := by decide +kernel
theorem dX11_closeTo_4 : decode cX11_closeTo 4 = .ok (.ifCond .le 167, 3) := by decide +kernel
theorem dX11_closeTo_7 : decode cX11_closeTo 7 = .ok (.aload_n 0, 1) := by decide +kernel
theorem dX11_closeTo_8 : decode cX11_closeTo 8 = .ok (.getfield 115, 3) := by decide +kernel
theorem dX11_closeTo_11 : decode cX11_closeTo 11 = .ok (.aload_n 0, 1) := by decide +kernel
theorem dX11_closeTo_12 : decode cX11_closeTo 12 = .ok (.getfield 304, 3) := by decide +kernel
theorem dX11_closeTo_15 : decode cX11_closeTo 15 = .ok (.iconst 1, 1) := by decide +kernel
theorem dX11_closeTo_16 : decode cX11_closeTo 16 = .ok (.isub, 1) := by decide +kernel
theorem dX11_closeTo_17 : decode cX11_closeTo 17 = .ok (.iaload, 1) := by decide +kernel
theorem dX11_closeTo_18 : decode cX11_closeTo 18 = .ok (.invokestatic 307, 3) := by decide +kernel
theorem dX11_closeTo_21 : decode cX11_closeTo 21 = .ok (.iload_n 1, 1) := by decide +kernel
theorem dX11_closeTo_22 : decode cX11_closeTo 22 = .ok (.if_icmp .lt 149, 3) := by decide +kernel
theorem dX11_closeTo_25 : decode cX11_closeTo 25 = .ok (.aload_n 0, 1) := by decide +kernel
theorem dX11_closeTo_26 : decode cX11_closeTo 26 = .ok (.dup, 1) := by decide +kernel
theorem dX11_closeTo_27 : decode cX11_closeTo 27 = .ok (.getfield 304, 3) := by decide +kernel
theorem dX11_closeTo_30 : decode cX11_closeTo 30 = .ok (.iconst 1, 1) := by decide +kernel
theorem dX11_closeTo_31 : decode cX11_closeTo 31 = .ok (.isub, 1) := by decide +kernel
theorem dX11_closeTo_32 : decode cX11_closeTo 32 = .ok (.putfield 304, 3) := by decide +kernel
theorem dX11_closeTo_35 : decode cX11_closeTo 35 = .ok (.aload_n 0, 1) := by decide +kernel
theorem dX11_closeTo_36 : decode cX11_closeTo 36 = .ok (.getfield 118, 3) := by decide +kernel
theorem dX11_closeTo_39 : decode cX11_closeTo 39 = .ok (.aload_n 0, 1) := by decide +kernel
theorem dX11_closeTo_40 : decode cX11_closeTo 40 = .ok (.getfield 301, 3) := by decide +kernel
theorem dX11_closeTo_43 : decode cX11_closeTo 43 = .ok (.iconst 1, 1) := by decide +kernel
theorem dX11_closeTo_44 : decode cX11_closeTo 44 = .ok (.isub, 1) := by decide +kernel
theorem dX11_closeTo_45 : decode cX11_closeTo 45 = .ok (.baload, 1) := by decide +kernel
theorem dX11_closeTo_46 : decode cX11_closeTo 46 = .ok (.istore_n 2, 1) := by decide +kernel
theorem dX11_closeTo_47 : decode cX11_closeTo 47 = .ok (.aload_n 0, 1) := by decide +kernel
theorem dX11_closeTo_48 : decode cX11_closeTo 48 = .ok (.getfield 115, 3) := by decide +kernel
theorem dX11_closeTo_51 : decode cX11_closeTo 51 = .ok (.aload_n 0, 1) := by decide +kernel
theorem dX11_closeTo_52 : decode cX11_closeTo 52 = .ok (.getfield 304, 3) := by decide +kernel
theorem dX11_closeTo_55 : decode cX11_closeTo 55 = .ok (.iaload, 1) := by decide +kernel
theorem dX11_closeTo_56 : decode cX11_closeTo 56 = .ok (.bipush 33, 2) := by decide +kernel
theorem dX11_closeTo_58 : decode cX11_closeTo 58 = .ok (.if_icmp .ne 26, 3) := by decide +kernel
theorem dX11_closeTo_61 : decode cX11_closeTo 61 = .ok (.aload_n 0, 1) := by decide +kernel
theorem dX11_closeTo_62 : decode cX11_closeTo 62 = .ok (.getfield 118, 3) := by decide +kernel
theorem dX11_closeTo_65 : decode cX11_closeTo 65 = .ok (.aload_n 0, 1) := by decide +kernel
theorem dX11_closeTo_66 : decode cX11_closeTo 66 = .ok (.getfield 301, 3) := by decide +kernel
theorem dX11_closeTo_69 : decode cX11_closeTo 69 = .ok (.iconst 1, 1) := by decide +kernel
theorem dX11_closeTo_70 : decode cX11_closeTo 70 = .ok (.isub, 1) := by decide +kernel
theorem dX11_closeTo_71 : decode cX11_closeTo 71 = .ok (.iload_n 2, 1) := by decide +kernel
theorem dX11_closeTo_72 : decode cX11_closeTo 72 = .ok (.ifCond .ne 7, 3) := by decide +kernel
theorem dX11_closeTo_75 : decode cX11_closeTo 75 = .ok (.iconst 1, 1) := by decide +kernel
theorem dX11_closeTo_76 : decode cX11_closeTo 76 = .ok (.goto 4, 3) := by decide +kernel
theorem dX11_closeTo_79 : decode cX11_closeTo 79 = .ok (.iconst 0, 1) := by decide +kernel
theorem dX11_closeTo_80 : decode cX11_closeTo 80 = .ok (.bastore, 1) := by decide +kernel
theorem dX11_closeTo_81 : decode cX11_closeTo 81 = .ok (.goto 87, 3) := by decide +kernel
theorem dX11_closeTo_84 : decode cX11_closeTo 84 = .ok (.aload_n 0, 1) := by decide +kernel
theorem dX11_closeTo_85 : decode cX11_closeTo 85 = .ok (.dup, 1) := by decide +kernel
theorem dX11_closeTo_86 : decode cX11_closeTo 86 = .ok (.getfield 301, 3) := by decide +kernel
theorem dX11_closeTo_89 : decode cX11_closeTo 89 = .ok (.iconst 1, 1) := by decide +kernel
theorem dX11_closeTo_90 : decode cX11_closeTo 90 = .ok (.isub, 1) := by decide +kernel
theorem dX11_closeTo_91 : decode cX11_closeTo 91 = .ok (.putfield 301, 3) := by decide +kernel
theorem dX11_closeTo_94 : decode cX11_closeTo 94 = .ok (.aload_n 0, 1) := by decide +kernel
theorem dX11_closeTo_95 : decode cX11_closeTo 95 = .ok (.getfield 118, 3) := by decide +kernel
theorem dX11_closeTo_98 : decode cX11_closeTo 98 = .ok (.aload_n 0, 1) := by decide +kernel
theorem dX11_closeTo_99 : decode cX11_closeTo 99 = .ok (.getfield 301, 3) := by decide +kernel
theorem dX11_closeTo_102 : decode cX11_closeTo 102 = .ok (.iconst 1, 1) := by decide +kernel
theorem dX11_closeTo_103 : decode cX11_closeTo 103 = .ok (.isub, 1) := by decide +kernel
theorem dX11_closeTo_104 : decode cX11_closeTo 104 = .ok (.aload_n 0, 1) := by decide +kernel
theorem dX11_closeTo_105 : decode cX11_closeTo 105 = .ok (.getfield 115, 3) := by decide +kernel
theorem dX11_closeTo_108 : decode cX11_closeTo 108 = .ok (.aload_n 0, 1) := by decide +kernel
theorem dX11_closeTo_109 : decode cX11_closeTo 109 = .ok (.getfield 304, 3) := by decide +kernel
theorem dX11_closeTo_112 : decode cX11_closeTo 112 = .ok (.iaload, 1) := by decide +kernel
theorem dX11_closeTo_113 : decode cX11_closeTo 113 = .ok (.bipush 38, 2) := by decide +kernel
theorem dX11_closeTo_115 : decode cX11_closeTo 115 = .ok (.if_icmp .ne 29, 3) := by decide +kernel
theorem dX11_closeTo_118 : decode cX11_closeTo 118 = .ok (.aload_n 0, 1) := by decide +kernel
theorem dX11_closeTo_119 : decode cX11_closeTo 119 = .ok (.getfield 118, 3) := by decide +kernel
theorem dX11_closeTo_122 : decode cX11_closeTo 122 = .ok (.aload_n 0, 1) := by decide +kernel
theorem dX11_closeTo_123 : decode cX11_closeTo 123 = .ok (.getfield 301, 3) := by decide +kernel
theorem dX11_closeTo_126 : decode cX11_closeTo 126 = .ok (.iconst 1, 1) := by decide +kernel
theorem dX11_closeTo_127 : decode cX11_closeTo 127 = .ok (.isub, 1) := by decide +kernel
theorem dX11_closeTo_128 : decode cX11_closeTo 128 = .ok (.baload, 1) := by decide +kernel
theorem dX11_closeTo_129 : decode cX11_closeTo 129 = .ok (.ifCond .eq 11, 3) := by decide +kernel
theorem dX11_closeTo_132 : decode cX11_closeTo 132 = .ok (.iload_n 2, 1) := by decide +kernel
theorem dX11_closeTo_133 : decode cX11_closeTo 133 = .ok (.ifCond .eq 7, 3) := by decide +kernel
theorem dX11_closeTo_136 : decode cX11_closeTo 136 = .ok (.iconst 1, 1) := by decide +kernel
theorem dX11_closeTo_137 : decode cX11_closeTo 137 = .ok (.goto 30, 3) := by decide +kernel
theorem dX11_closeTo_140 : decode cX11_closeTo 140 = .ok (.iconst 0, 1) := by decide +kernel
theorem dX11_closeTo_141 : decode cX11_closeTo 141 = .ok (.goto 26, 3) := by decide +kernel
theorem dX11_closeTo_144 : decode cX11_closeTo 144 = .ok (.aload_n 0, 1) := by decide +kernel
theorem dX11_closeTo_145 : decode cX11_closeTo 145 = .ok (.getfield 118, 3) := by decide +kernel
theorem dX11_closeTo_148 : decode cX11_closeTo 148 = .ok (.aload_n 0, 1) := by decide +kernel
theorem dX11_closeTo_149 : decode cX11_closeTo 149 = .ok (.getfield 301, 3) := by decide +kernel
theorem dX11_closeTo_152 : decode cX11_closeTo 152 = .ok (.iconst 1, 1) := by decide +kernel
theorem dX11_closeTo_153 : decode cX11_closeTo 153 = .ok (.isub, 1) := by decide +kernel
theorem dX11_closeTo_154 : decode cX11_closeTo 154 = .ok (.baload, 1) := by decide +kernel
theorem dX11_closeTo_155 : decode cX11_closeTo 155 = .ok (.ifCond .ne 7, 3) := by decide +kernel
theorem dX11_closeTo_158 : decode cX11_closeTo 158 = .ok (.iload_n 2, 1) := by decide +kernel
theorem dX11_closeTo_159 : decode cX11_closeTo 159 = .ok (.ifCond .eq 7, 3) := by decide +kernel
theorem dX11_closeTo_162 : decode cX11_closeTo 162 = .ok (.iconst 1, 1) := by decide +kernel
theorem dX11_closeTo_163 : decode cX11_closeTo 163 = .ok (.goto 4, 3) := by decide +kernel
theorem dX11_closeTo_166 : decode cX11_closeTo 166 = .ok (.iconst 0, 1) := by decide +kernel
theorem dX11_closeTo_167 : decode cX11_closeTo 167 = .ok (.bastore, 1) := by decide +kernel
theorem dX11_closeTo_168 : decode cX11_closeTo 168 = .ok (.goto (-168), 3) := by decide +kernel
theorem dX11_closeTo_171 : decode cX11_closeTo 171 = .ok (.return_, 1) := by decide +kernel
theorem dX11_push_0 : decode cX11_push 0 = .ok (.aload_n 0, 1) := by decide +kernel
theorem dX11_push_1 : decode cX11_push 1 = .ok (.getfield 115, 3) := by decide +kernel
theorem dX11_push_4 : decode cX11_push 4 = .ok (.aload_n 0, 1) := by decide +kernel
theorem dX11_push_5 : decode cX11_push 5 = .ok (.getfield 304, 3) := by decide +kernel
theorem dX11_push_8 : decode cX11_push 8 = .ok (.iload_n 1, 1) := by decide +kernel
theorem dX11_push_9 : decode cX11_push 9 = .ok (.iastore, 1) := by decide +kernel
theorem dX11_push_10 : decode cX11_push 10 = .ok (.aload_n 0, 1) := by decide +kernel
theorem dX11_push_11 : decode cX11_push 11 = .ok (.dup, 1) := by decide +kernel
theorem dX11_push_12 : decode cX11_push 12 = .ok (.getfield 304, 3) := by decide +kernel
theorem dX11_push_15 : decode cX11_push 15 = .ok (.iconst 1, 1) := by decide +kernel
theorem dX11_push_16 : decode cX11_push 16 = .ok (.iadd, 1) := by decide +kernel
theorem dX11_push_17 : decode cX11_push 17 = .ok (.putfield 304, 3) := by decide +kernel
theorem dX11_push_20 : decode cX11_push 20 = .ok (.aload_n 0, 1) := by decide +kernel
theorem dX11_push_21 : decode cX11_push 21 = .ok (.dup, 1) := by decide +kernel
theorem dX11_push_22 : decode cX11_push 22 = .ok (.getfield 286, 3) := by decide +kernel
theorem dX11_push_25 : decode cX11_push 25 = .ok (.iconst 1, 1) := by decide +kernel
theorem dX11_push_26 : decode cX11_push 26 = .ok (.iadd, 1) := by decide +kernel
theorem dX11_push_27 : decode cX11_push 27 = .ok (.putfield 286, 3) := by decide +kernel
theorem dX11_push_30 : decode cX11_push 30 = .ok (.return_, 1) := by decide +kernel
theorem dX11_readTerm_0 : decode cX11_readTerm 0 = .ok (.aload_n 0, 1) := by decide +kernel
theorem dX11_readTerm_1 : decode cX11_readTerm 1 = .ok (.iconst 0, 1) := by decide +kernel
theorem dX11_readTerm_2 : decode cX11_readTerm 2 = .ok (.putfield 286, 3) := by decide +kernel
theorem dX11_readTerm_5 : decode cX11_readTerm 5 = .ok (.aload_n 0, 1) := by decide +kernel
theorem dX11_readTerm_6 : decode cX11_readTerm 6 = .ok (.iconst 0, 1) := by decide +kernel
theorem dX11_readTerm_7 : decode cX11_readTerm 7 = .ok (.putfield 304, 3) := by decide +kernel
theorem dX11_readTerm_10 : decode cX11_readTerm 10 = .ok (.aload_n 0, 1) := by decide +kernel
theorem dX11_readTerm_11 : decode cX11_readTerm 11 = .ok (.iconst 0, 1) := by decide +kernel
theorem dX11_readTerm_12 : decode cX11_readTerm 12 = .ok (.putfield 301, 3) := by decide +kernel
theorem dX11_readTerm_15 : decode cX11_readTerm 15 = .ok (.iconst 0, 1) := by decide +kernel
theorem dX11_readTerm_16 : decode cX11_readTerm 16 = .ok (.istore_n 2, 1) := by decide +kernel
theorem dX11_readTerm_17 : decode cX11_readTerm 17 = .ok (.iconst 1, 1) := by decide +kernel
theorem dX11_readTerm_18 : decode cX11_readTerm 18 = .ok (.istore_n 3, 1) := by decide +kernel
theorem dX11_readTerm_19 : decode cX11_readTerm 19 = .ok (.iload_n 3, 1) := by decide +kernel
theorem dX11_readTerm_20 : decode cX11_readTerm 20 = .ok (.ifCond .ne 11, 3) := by decide +kernel
theorem dX11_readTerm_23 : decode cX11_readTerm 23 = .ok (.aload_n 0, 1) := by decide +kernel
theorem dX11_readTerm_24 : decode cX11_readTerm 24 = .ok (.iload_n 1, 1) := by decide +kernel
theorem dX11_readTerm_25 : decode cX11_readTerm 25 = .ok (.invokevirtual 289, 3) := by decide +kernel
theorem dX11_readTerm_28 : decode cX11_readTerm 28 = .ok (.ifCond .eq 154, 3) := by decide +kernel
theorem dX11_readTerm_31 : decode cX11_readTerm 31 = .ok (.aload_n 0, 1) := by decide +kernel
theorem dX11_readTerm_32 : decode cX11_readTerm 32 = .ok (.iload_n 1, 1) := by decide +kernel
theorem dX11_readTerm_33 : decode cX11_readTerm 33 = .ok (.invokevirtual 289, 3) := by decide +kernel
theorem dX11_readTerm_36 : decode cX11_readTerm 36 = .ok (.istore 4, 2) := by decide +kernel
theorem dX11_readTerm_38 : decode cX11_readTerm 38 = .ok (.iload_n 3, 1) := by decide +kernel
theorem dX11_readTerm_39 : decode cX11_readTerm 39 = .ok (.ifCond .eq 59, 3) := by decide +kernel
theorem dX11_readTerm_42 : decode cX11_readTerm 42 = .ok (.iload 4, 2) := by decide +kernel
theorem dX11_readTerm_44 : decode cX11_readTerm 44 = .ok (.bipush 33, 2) := by decide +kernel
theorem dX11_readTerm_46 : decode cX11_readTerm 46 = .ok (.if_icmp .eq 10, 3) := by decide +kernel
theorem dX11_readTerm_49 : decode cX11_readTerm 49 = .ok (.iload 4, 2) := by decide +kernel
theorem dX11_readTerm_51 : decode cX11_readTerm 51 = .ok (.bipush 40, 2) := by decide +kernel
theorem dX11_readTerm_53 : decode cX11_readTerm 53 = .ok (.if_icmp .ne 27, 3) := by decide +kernel
theorem dX11_readTerm_56 : decode cX11_readTerm 56 = .ok (.iload_n 2, 1) := by decide +kernel
theorem dX11_readTerm_57 : decode cX11_readTerm 57 = .ok (.iload 4, 2) := by decide +kernel
theorem dX11_readTerm_59 : decode cX11_readTerm 59 = .ok (.bipush 40, 2) := by decide +kernel
theorem dX11_readTerm_61 : decode cX11_readTerm 61 = .ok (.if_icmp .ne 7, 3) := by decide +kernel
theorem dX11_readTerm_64 : decode cX11_readTerm 64 = .ok (.iconst 1, 1) := by decide +kernel
theorem dX11_readTerm_65 : decode cX11_readTerm 65 = .ok (.goto 4, 3) := by decide +kernel
theorem dX11_readTerm_68 : decode cX11_readTerm 68 = .ok (.iconst 0, 1) := by decide +kernel
theorem dX11_readTerm_69 : decode cX11_readTerm 69 = .ok (.iadd, 1) := by decide +kernel
theorem dX11_readTerm_70 : decode cX11_readTerm 70 = .ok (.istore_n 2, 1) := by decide +kernel
theorem dX11_readTerm_71 : decode cX11_readTerm 71 = .ok (.aload_n 0, 1) := by decide +kernel
theorem dX11_readTerm_72 : decode cX11_readTerm 72 = .ok (.iload 4, 2) := by decide +kernel
theorem dX11_readTerm_74 : decode cX11_readTerm 74 = .ok (.invokevirtual 310, 3) := by decide +kernel
theorem dX11_readTerm_77 : decode cX11_readTerm 77 = .ok (.goto 102, 3) := by decide +kernel
theorem dX11_readTerm_80 : decode cX11_readTerm 80 = .ok (.aload_n 0, 1) := by decide +kernel
theorem dX11_readTerm_81 : decode cX11_readTerm 81 = .ok (.iload_n 1, 1) := by decide +kernel
theorem dX11_readTerm_82 : decode cX11_readTerm 82 = .ok (.invokevirtual 313, 3) := by decide +kernel
theorem dX11_readTerm_85 : decode cX11_readTerm 85 = .ok (.ifCond .eq 8, 3) := by decide +kernel
theorem dX11_readTerm_88 : decode cX11_readTerm 88 = .ok (.iconst 0, 1) := by decide +kernel
theorem dX11_readTerm_89 : decode cX11_readTerm 89 = .ok (.istore_n 3, 1) := by decide +kernel
theorem dX11_readTerm_90 : decode cX11_readTerm 90 = .ok (.goto 89, 3) := by decide +kernel
theorem dX11_readTerm_93 : decode cX11_readTerm 93 = .ok (.aload_n 0, 1) := by decide +kernel
theorem dX11_readTerm_94 : decode cX11_readTerm 94 = .ok (.getfield 286, 3) := by decide +kernel
theorem dX11_readTerm_97 : decode cX11_readTerm 97 = .ok (.ireturn, 1) := by decide +kernel
theorem dX11_readTerm_98 : decode cX11_readTerm 98 = .ok (.iload 4, 2) := by decide +kernel
theorem dX11_readTerm_100 : decode cX11_readTerm 100 = .ok (.bipush 41, 2) := by decide +kernel
theorem dX11_readTerm_102 : decode cX11_readTerm 102 = .ok (.if_icmp .ne 38, 3) := by decide +kernel
theorem dX11_readTerm_105 : decode cX11_readTerm 105 = .ok (.iload_n 2, 1) := by decide +kernel
theorem dX11_readTerm_106 : decode cX11_readTerm 106 = .ok (.ifCond .le 34, 3) := by decide +kernel
theorem dX11_readTerm_109 : decode cX11_readTerm 109 = .ok (.aload_n 0, 1) := by decide +kernel
theorem dX11_readTerm_110 : decode cX11_readTerm 110 = .ok (.iconst 1, 1) := by decide +kernel
theorem dX11_readTerm_111 : decode cX11_readTerm 111 = .ok (.invokevirtual 316, 3) := by decide +kernel
theorem dX11_readTerm_114 : decode cX11_readTerm 114 = .ok (.aload_n 0, 1) := by decide +kernel
theorem dX11_readTerm_115 : decode cX11_readTerm 115 = .ok (.dup, 1) := by decide +kernel
theorem dX11_readTerm_116 : decode cX11_readTerm 116 = .ok (.getfield 304, 3) := by decide +kernel
theorem dX11_readTerm_119 : decode cX11_readTerm 119 = .ok (.iconst 1, 1) := by decide +kernel
theorem dX11_readTerm_120 : decode cX11_readTerm 120 = .ok (.isub, 1) := by decide +kernel
theorem dX11_readTerm_121 : decode cX11_readTerm 121 = .ok (.putfield 304, 3) := by decide +kernel
theorem dX11_readTerm_124 : decode cX11_readTerm 124 = .ok (.iinc 2 (-1), 3) := by decide +kernel
theorem dX11_readTerm_127 : decode cX11_readTerm 127 = .ok (.aload_n 0, 1) := by decide +kernel
theorem dX11_readTerm_128 : decode cX11_readTerm 128 = .ok (.dup, 1) := by decide +kernel
theorem dX11_readTerm_129 : decode cX11_readTerm 129 = .ok (.getfield 286, 3) := by decide +kernel
theorem dX11_readTerm_132 : decode cX11_readTerm 132 = .ok (.iconst 1, 1) := by decide +kernel
theorem dX11_readTerm_133 : decode cX11_readTerm 133 = .ok (.iadd, 1) := by decide +kernel
theorem dX11_readTerm_134 : decode cX11_readTerm 134 = .ok (.putfield 286, 3) := by decide +kernel
theorem dX11_readTerm_137 : decode cX11_readTerm 137 = .ok (.goto 42, 3) := by decide +kernel
theorem dX11_readTerm_140 : decode cX11_readTerm 140 = .ok (.iload 4, 2) := by decide +kernel
theorem dX11_readTerm_142 : decode cX11_readTerm 142 = .ok (.bipush 38, 2) := by decide +kernel
theorem dX11_readTerm_144 : decode cX11_readTerm 144 = .ok (.if_icmp .eq 10, 3) := by decide +kernel
theorem dX11_readTerm_147 : decode cX11_readTerm 147 = .ok (.iload 4, 2) := by decide +kernel
theorem dX11_readTerm_149 : decode cX11_readTerm 149 = .ok (.bipush 124, 2) := by decide +kernel
theorem dX11_readTerm_151 : decode cX11_readTerm 151 = .ok (.if_icmp .ne 23, 3) := by decide +kernel
theorem dX11_readTerm_154 : decode cX11_readTerm 154 = .ok (.aload_n 0, 1) := by decide +kernel
theorem dX11_readTerm_155 : decode cX11_readTerm 155 = .ok (.iload 4, 2) := by decide +kernel
theorem dX11_readTerm_157 : decode cX11_readTerm 157 = .ok (.invokestatic 307, 3) := by decide +kernel
theorem dX11_readTerm_160 : decode cX11_readTerm 160 = .ok (.invokevirtual 316, 3) := by decide +kernel
theorem dX11_readTerm_163 : decode cX11_readTerm 163 = .ok (.aload_n 0, 1) := by decide +kernel
theorem dX11_readTerm_164 : decode cX11_readTerm 164 = .ok (.iload 4, 2) := by decide +kernel
theorem dX11_readTerm_166 : decode cX11_readTerm 166 = .ok (.invokevirtual 310, 3) := by decide +kernel
theorem dX11_readTerm_169 : decode cX11_readTerm 169 = .ok (.iconst 1, 1) := by decide +kernel
theorem dX11_readTerm_170 : decode cX11_readTerm 170 = .ok (.istore_n 3, 1) := by decide +kernel
theorem dX11_readTerm_171 : decode cX11_readTerm 171 = .ok (.goto 8, 3) := by decide +kernel
theorem dX11_readTerm_174 : decode cX11_readTerm 174 = .ok (.aload_n 0, 1) := by decide +kernel
theorem dX11_readTerm_175 : decode cX11_readTerm 175 = .ok (.getfield 286, 3) := by decide +kernel
theorem dX11_readTerm_178 : decode cX11_readTerm 178 = .ok (.ireturn, 1) := by decide +kernel
theorem dX11_readTerm_179 : decode cX11_readTerm 179 = .ok (.goto (-160), 3) := by decide +kernel
theorem dX11_readTerm_182 : decode cX11_readTerm 182 = .ok (.iload_n 2, 1) := by decide +kernel
theorem dX11_readTerm_183 : decode cX11_readTerm 183 = .ok (.ifCond .le 8, 3) := by decide +kernel
theorem dX11_readTerm_186 : decode cX11_readTerm 186 = .ok (.aload_n 0, 1) := by decide +kernel
theorem dX11_readTerm_187 : decode cX11_readTerm 187 = .ok (.getfield 286, 3) := by decide +kernel
theorem dX11_readTerm_190 : decode cX11_readTerm 190 = .ok (.ireturn, 1) := by decide +kernel
theorem dX11_readTerm_191 : decode cX11_readTerm 191 = .ok (.aload_n 0, 1) := by decide +kernel
theorem dX11_readTerm_192 : decode cX11_readTerm 192 = .ok (.iconst 1, 1) := by decide +kernel
theorem dX11_readTerm_193 : decode cX11_readTerm 193 = .ok (.invokevirtual 316, 3) := by decide +kernel
theorem dX11_readTerm_196 : decode cX11_readTerm 196 = .ok (.ldc 152, 2) := by decide +kernel
theorem dX11_readTerm_198 : decode cX11_readTerm 198 = .ok (.ireturn, 1) := by decide +kernel
theorem dX11_fault_0 : decode cX11_fault 0 = .ok (.aload_n 0, 1) := by decide +kernel
theorem dX11_fault_1 : decode cX11_fault 1 = .ok (.iload_n 1, 1) := by decide +kernel
theorem dX11_fault_2 : decode cX11_fault 2 = .ok (.invokevirtual 281, 3) := by decide +kernel
theorem dX11_fault_5 : decode cX11_fault 5 = .ok (.ifCond .eq 11, 3) := by decide +kernel
theorem dX11_fault_8 : decode cX11_fault 8 = .ok (.aload_n 0, 1) := by decide +kernel
theorem dX11_fault_9 : decode cX11_fault 9 = .ok (.iload_n 1, 1) := by decide +kernel
theorem dX11_fault_10 : decode cX11_fault 10 = .ok (.invokevirtual 319, 3) := by decide +kernel
theorem dX11_fault_13 : decode cX11_fault 13 = .ok (.goto 5, 3) := by decide +kernel
theorem dX11_fault_16 : decode cX11_fault 16 = .ok (.ldc 143, 2) := by decide +kernel
theorem dX11_fault_18 : decode cX11_fault 18 = .ok (.ireturn, 1) := by decide +kernel
theorem dX11_forceIn_0 : decode cX11_forceIn 0 = .ok (.ldc 152, 2) := by decide +kernel
theorem dX11_forceIn_2 : decode cX11_forceIn 2 = .ok (.istore_n 2, 1) := by decide +kernel
theorem dX11_forceIn_3 : decode cX11_forceIn 3 = .ok (.iconst 0, 1) := by decide +kernel
theorem dX11_forceIn_4 : decode cX11_forceIn 4 = .ok (.istore_n 3, 1) := by decide +kernel
theorem dX11_forceIn_5 : decode cX11_forceIn 5 = .ok (.iload_n 3, 1) := by decide +kernel
theorem dX11_forceIn_6 : decode cX11_forceIn 6 = .ok (.aload_n 0, 1) := by decide +kernel
theorem dX11_forceIn_7 : decode cX11_forceIn 7 = .ok (.getfield 276, 3) := by decide +kernel
theorem dX11_forceIn_10 : decode cX11_forceIn 10 = .ok (.if_icmp .ge 68, 3) := by decide +kernel
theorem dX11_forceIn_13 : decode cX11_forceIn 13 = .ok (.aload_n 0, 1) := by decide +kernel
theorem dX11_forceIn_14 : decode cX11_forceIn 14 = .ok (.getfield 106, 3) := by decide +kernel
theorem dX11_forceIn_17 : decode cX11_forceIn 17 = .ok (.iload_n 3, 1) := by decide +kernel
theorem dX11_forceIn_18 : decode cX11_forceIn 18 = .ok (.iaload, 1) := by decide +kernel
theorem dX11_forceIn_19 : decode cX11_forceIn 19 = .ok (.iload_n 1, 1) := by decide +kernel
theorem dX11_forceIn_20 : decode cX11_forceIn 20 = .ok (.if_icmp .gt 28, 3) := by decide +kernel
theorem dX11_forceIn_23 : decode cX11_forceIn 23 = .ok (.iload_n 2, 1) := by decide +kernel
theorem dX11_forceIn_24 : decode cX11_forceIn 24 = .ok (.ldc 152, 2) := by decide +kernel
theorem dX11_forceIn_26 : decode cX11_forceIn 26 = .ok (.if_icmp .eq 18, 3) := by decide +kernel
theorem dX11_forceIn_29 : decode cX11_forceIn 29 = .ok (.aload_n 0, 1) := by decide +kernel
theorem dX11_forceIn_30 : decode cX11_forceIn 30 = .ok (.getfield 106, 3) := by decide +kernel
theorem dX11_forceIn_33 : decode cX11_forceIn 33 = .ok (.iload_n 3, 1) := by decide +kernel
theorem dX11_forceIn_34 : decode cX11_forceIn 34 = .ok (.iaload, 1) := by decide +kernel
theorem dX11_forceIn_35 : decode cX11_forceIn 35 = .ok (.aload_n 0, 1) := by decide +kernel
theorem dX11_forceIn_36 : decode cX11_forceIn 36 = .ok (.getfield 106, 3) := by decide +kernel
theorem dX11_forceIn_39 : decode cX11_forceIn 39 = .ok (.iload_n 2, 1) := by decide +kernel
theorem dX11_forceIn_40 : decode cX11_forceIn 40 = .ok (.iaload, 1) := by decide +kernel
theorem dX11_forceIn_41 : decode cX11_forceIn 41 = .ok (.if_icmp .lt 7, 3) := by decide +kernel
theorem dX11_forceIn_44 : decode cX11_forceIn 44 = .ok (.iconst 1, 1) := by decide +kernel
theorem dX11_forceIn_45 : decode cX11_forceIn 45 = .ok (.goto 4, 3) := by decide +kernel
theorem dX11_forceIn_48 : decode cX11_forceIn 48 = .ok (.iconst 0, 1) := by decide +kernel
theorem dX11_forceIn_49 : decode cX11_forceIn 49 = .ok (.istore 4, 2) := by decide +kernel
theorem dX11_forceIn_51 : decode cX11_forceIn 51 = .ok (.iload 4, 2) := by decide +kernel
theorem dX11_forceIn_53 : decode cX11_forceIn 53 = .ok (.ifCond .eq 17, 3) := by decide +kernel
theorem dX11_forceIn_56 : decode cX11_forceIn 56 = .ok (.aload_n 0, 1) := by decide +kernel
theorem dX11_forceIn_57 : decode cX11_forceIn 57 = .ok (.iload_n 3, 1) := by decide +kernel
theorem dX11_forceIn_58 : decode cX11_forceIn 58 = .ok (.invokevirtual 319, 3) := by decide +kernel
theorem dX11_forceIn_61 : decode cX11_forceIn 61 = .ok (.ldc 152, 2) := by decide +kernel
theorem dX11_forceIn_63 : decode cX11_forceIn 63 = .ok (.if_icmp .ne 7, 3) := by decide +kernel
theorem dX11_forceIn_66 : decode cX11_forceIn 66 = .ok (.iload_n 3, 1) := by decide +kernel
theorem dX11_forceIn_67 : decode cX11_forceIn 67 = .ok (.goto 4, 3) := by decide +kernel
theorem dX11_forceIn_70 : decode cX11_forceIn 70 = .ok (.iload_n 2, 1) := by decide +kernel
theorem dX11_forceIn_71 : decode cX11_forceIn 71 = .ok (.istore_n 2, 1) := by decide +kernel
theorem dX11_forceIn_72 : decode cX11_forceIn 72 = .ok (.iinc 3 1, 3) := by decide +kernel
theorem dX11_forceIn_75 : decode cX11_forceIn 75 = .ok (.goto (-70), 3) := by decide +kernel
theorem dX11_forceIn_78 : decode cX11_forceIn 78 = .ok (.iload_n 2, 1) := by decide +kernel
theorem dX11_forceIn_79 : decode cX11_forceIn 79 = .ok (.ireturn, 1) := by decide +kernel
theorem dX11_force_0 : decode cX11_force 0 = .ok (.iload_n 1, 1) := by decide +kernel
theorem dX11_force_1 : decode cX11_force 1 = .ok (.i2l, 1) := by decide +kernel
theorem dX11_force_2 : decode cX11_force 2 = .ok (.lconst 0, 1) := by decide +kernel
theorem dX11_force_3 : decode cX11_force 3 = .ok (.ldc2_w 279, 3) := by decide +kernel
theorem dX11_force_6 : decode cX11_force 6 = .ok (.invokestatic 126, 3) := by decide +kernel
theorem dX11_force_9 : decode cX11_force 9 = .ok (.ifCond .eq 11, 3) := by decide +kernel
theorem dX11_force_12 : decode cX11_force 12 = .ok (.aload_n 0, 1) := by decide +kernel
theorem dX11_force_13 : decode cX11_force 13 = .ok (.iload_n 1, 1) := by decide +kernel
theorem dX11_force_14 : decode cX11_force 14 = .ok (.invokevirtual 322, 3) := by decide +kernel
theorem dX11_force_17 : decode cX11_force 17 = .ok (.goto 5, 3) := by decide +kernel
theorem dX11_force_20 : decode cX11_force 20 = .ok (.ldc 130, 2) := by decide +kernel
theorem dX11_force_22 : decode cX11_force 22 = .ok (.ireturn, 1) := by decide +kernel
theorem dX11_says_0 : decode cX11_says 0 = .ok (.aload_n 0, 1) := by decide +kernel
theorem dX11_says_1 : decode cX11_says 1 = .ok (.iload_n 2, 1) := by decide +kernel
theorem dX11_says_2 : decode cX11_says 2 = .ok (.invokevirtual 322, 3) := by decide +kernel
theorem dX11_says_5 : decode cX11_says 5 = .ok (.istore_n 3, 1) := by decide +kernel
theorem dX11_says_6 : decode cX11_says 6 = .ok (.aload_n 0, 1) := by decide +kernel
theorem dX11_says_7 : decode cX11_says 7 = .ok (.getfield 121, 3) := by decide +kernel
theorem dX11_says_10 : decode cX11_says 10 = .ok (.iconst 0, 1) := by decide +kernel
theorem dX11_says_11 : decode cX11_says 11 = .ok (.aload_n 0, 1) := by decide +kernel
theorem dX11_says_12 : decode cX11_says 12 = .ok (.getfield 258, 3) := by decide +kernel
theorem dX11_says_15 : decode cX11_says 15 = .ok (.aload_n 0, 1) := by decide +kernel
theorem dX11_says_16 : decode cX11_says 16 = .ok (.getfield 87, 3) := by decide +kernel
theorem dX11_says_19 : decode cX11_says 19 = .ok (.iload_n 1, 1) := by decide +kernel
theorem dX11_says_20 : decode cX11_says 20 = .ok (.iaload, 1) := by decide +kernel
theorem dX11_says_21 : decode cX11_says 21 = .ok (.i2l, 1) := by decide +kernel
theorem dX11_says_22 : decode cX11_says 22 = .ok (.ldiv, 1) := by decide +kernel
theorem dX11_says_23 : decode cX11_says 23 = .ok (.lastore, 1) := by decide +kernel
theorem dX11_says_24 : decode cX11_says 24 = .ok (.aload_n 0, 1) := by decide +kernel
theorem dX11_says_25 : decode cX11_says 25 = .ok (.getfield 121, 3) := by decide +kernel
theorem dX11_says_28 : decode cX11_says 28 = .ok (.iconst 1, 1) := by decide +kernel
theorem dX11_says_29 : decode cX11_says 29 = .ok (.aload_n 0, 1) := by decide +kernel
theorem dX11_says_30 : decode cX11_says 30 = .ok (.getfield 258, 3) := by decide +kernel
theorem dX11_says_33 : decode cX11_says 33 = .ok (.lastore, 1) := by decide +kernel
theorem dX11_says_34 : decode cX11_says 34 = .ok (.aload_n 0, 1) := by decide +kernel
theorem dX11_says_35 : decode cX11_says 35 = .ok (.getfield 121, 3) := by decide +kernel
theorem dX11_says_38 : decode cX11_says 38 = .ok (.iconst 2, 1) := by decide +kernel
theorem dX11_says_39 : decode cX11_says 39 = .ok (.aload_n 0, 1) := by decide +kernel
theorem dX11_says_40 : decode cX11_says 40 = .ok (.getfield 252, 3) := by decide +kernel
theorem dX11_says_43 : decode cX11_says 43 = .ok (.lastore, 1) := by decide +kernel
theorem dX11_says_44 : decode cX11_says 44 = .ok (.aload_n 0, 1) := by decide +kernel
theorem dX11_says_45 : decode cX11_says 45 = .ok (.getfield 121, 3) := by decide +kernel
theorem dX11_says_48 : decode cX11_says 48 = .ok (.iconst 3, 1) := by decide +kernel
theorem dX11_says_49 : decode cX11_says 49 = .ok (.iload_n 2, 1) := by decide +kernel
theorem dX11_says_50 : decode cX11_says 50 = .ok (.aload_n 0, 1) := by decide +kernel
theorem dX11_says_51 : decode cX11_says 51 = .ok (.getfield 90, 3) := by decide +kernel
theorem dX11_says_54 : decode cX11_says 54 = .ok (.iload_n 1, 1) := by decide +kernel
theorem dX11_says_55 : decode cX11_says 55 = .ok (.iaload, 1) := by decide +kernel
theorem dX11_says_56 : decode cX11_says 56 = .ok (.isub, 1) := by decide +kernel
theorem dX11_says_57 : decode cX11_says 57 = .ok (.i2l, 1) := by decide +kernel
theorem dX11_says_58 : decode cX11_says 58 = .ok (.lastore, 1) := by decide +kernel
theorem dX11_says_59 : decode cX11_says 59 = .ok (.aload_n 0, 1) := by decide +kernel
theorem dX11_says_60 : decode cX11_says 60 = .ok (.getfield 121, 3) := by decide +kernel
theorem dX11_says_63 : decode cX11_says 63 = .ok (.iconst 4, 1) := by decide +kernel
theorem dX11_says_64 : decode cX11_says 64 = .ok (.aload_n 0, 1) := by decide +kernel
theorem dX11_says_65 : decode cX11_says 65 = .ok (.getfield 93, 3) := by decide +kernel
theorem dX11_says_68 : decode cX11_says 68 = .ok (.iload_n 1, 1) := by decide +kernel
theorem dX11_says_69 : decode cX11_says 69 = .ok (.baload, 1) := by decide +kernel
theorem dX11_says_70 : decode cX11_says 70 = .ok (.ifCond .eq 7, 3) := by decide +kernel
theorem dX11_says_73 : decode cX11_says 73 = .ok (.lconst 1, 1) := by decide +kernel
theorem dX11_says_74 : decode cX11_says 74 = .ok (.goto 4, 3) := by decide +kernel
theorem dX11_says_77 : decode cX11_says 77 = .ok (.lconst 0, 1) := by decide +kernel
theorem dX11_says_78 : decode cX11_says 78 = .ok (.lastore, 1) := by decide +kernel
theorem dX11_says_79 : decode cX11_says 79 = .ok (.iload_n 3, 1) := by decide +kernel
theorem dX11_says_80 : decode cX11_says 80 = .ok (.ldc 152, 2) := by decide +kernel
theorem dX11_says_82 : decode cX11_says 82 = .ok (.if_icmp .eq 26, 3) := by decide +kernel
theorem dX11_says_85 : decode cX11_says 85 = .ok (.aload_n 0, 1) := by decide +kernel
theorem dX11_says_86 : decode cX11_says 86 = .ok (.iload_n 3, 1) := by decide +kernel
theorem dX11_says_87 : decode cX11_says 87 = .ok (.invokevirtual 319, 3) := by decide +kernel
theorem dX11_says_90 : decode cX11_says 90 = .ok (.ldc 152, 2) := by decide +kernel
theorem dX11_says_92 : decode cX11_says 92 = .ok (.if_icmp .ne 16, 3) := by decide +kernel
theorem dX11_says_95 : decode cX11_says 95 = .ok (.aload_n 0, 1) := by decide +kernel
theorem dX11_says_96 : decode cX11_says 96 = .ok (.getfield 118, 3) := by decide +kernel
theorem dX11_says_99 : decode cX11_says 99 = .ok (.iconst 0, 1) := by decide +kernel
theorem dX11_says_100 : decode cX11_says 100 = .ok (.baload, 1) := by decide +kernel
theorem dX11_says_101 : decode cX11_says 101 = .ok (.ifCond .eq 7, 3) := by decide +kernel
theorem dX11_says_104 : decode cX11_says 104 = .ok (.iconst 1, 1) := by decide +kernel
theorem dX11_says_105 : decode cX11_says 105 = .ok (.goto 4, 3) := by decide +kernel
theorem dX11_says_108 : decode cX11_says 108 = .ok (.iconst 0, 1) := by decide +kernel
theorem dX11_says_109 : decode cX11_says 109 = .ok (.ireturn, 1) := by decide +kernel
theorem dX11_mayTake_0 : decode cX11_mayTake 0 = .ok (.aload_n 0, 1) := by decide +kernel
theorem dX11_mayTake_1 : decode cX11_mayTake 1 = .ok (.aload_n 0, 1) := by decide +kernel
theorem dX11_mayTake_2 : decode cX11_mayTake 2 = .ok (.getfield 96, 3) := by decide +kernel
theorem dX11_mayTake_5 : decode cX11_mayTake 5 = .ok (.aload_n 0, 1) := by decide +kernel
theorem dX11_mayTake_6 : decode cX11_mayTake 6 = .ok (.iload_n 1, 1) := by decide +kernel
theorem dX11_mayTake_7 : decode cX11_mayTake 7 = .ok (.invokevirtual 249, 3) := by decide +kernel
theorem dX11_mayTake_10 : decode cX11_mayTake 10 = .ok (.laload, 1) := by decide +kernel
theorem dX11_mayTake_11 : decode cX11_mayTake 11 = .ok (.putfield 252, 3) := by decide +kernel
theorem dX11_mayTake_14 : decode cX11_mayTake 14 = .ok (.aload_n 0, 1) := by decide +kernel
theorem dX11_mayTake_15 : decode cX11_mayTake 15 = .ok (.aload_n 0, 1) := by decide +kernel
theorem dX11_mayTake_16 : decode cX11_mayTake 16 = .ok (.getfield 100, 3) := by decide +kernel
theorem dX11_mayTake_19 : decode cX11_mayTake 19 = .ok (.aload_n 0, 1) := by decide +kernel
theorem dX11_mayTake_20 : decode cX11_mayTake 20 = .ok (.iload_n 1, 1) := by decide +kernel
theorem dX11_mayTake_21 : decode cX11_mayTake 21 = .ok (.invokevirtual 249, 3) := by decide +kernel
theorem dX11_mayTake_24 : decode cX11_mayTake 24 = .ok (.laload, 1) := by decide +kernel
theorem dX11_mayTake_25 : decode cX11_mayTake 25 = .ok (.putfield 258, 3) := by decide +kernel
theorem dX11_mayTake_28 : decode cX11_mayTake 28 = .ok (.aload_n 0, 1) := by decide +kernel
theorem dX11_mayTake_29 : decode cX11_mayTake 29 = .ok (.getfield 103, 3) := by decide +kernel
theorem dX11_mayTake_32 : decode cX11_mayTake 32 = .ok (.aload_n 0, 1) := by decide +kernel
theorem dX11_mayTake_33 : decode cX11_mayTake 33 = .ok (.iload_n 1, 1) := by decide +kernel
theorem dX11_mayTake_34 : decode cX11_mayTake 34 = .ok (.invokevirtual 249, 3) := by decide +kernel
theorem dX11_mayTake_37 : decode cX11_mayTake 37 = .ok (.iaload, 1) := by decide +kernel
theorem dX11_mayTake_38 : decode cX11_mayTake 38 = .ok (.iconst 1, 1) := by decide +kernel
theorem dX11_mayTake_39 : decode cX11_mayTake 39 = .ok (.if_icmp .ne 19, 3) := by decide +kernel
theorem dX11_mayTake_42 : decode cX11_mayTake 42 = .ok (.aload_n 0, 1) := by decide +kernel
theorem dX11_mayTake_43 : decode cX11_mayTake 43 = .ok (.iload_n 1, 1) := by decide +kernel
theorem dX11_mayTake_44 : decode cX11_mayTake 44 = .ok (.aload_n 0, 1) := by decide +kernel
theorem dX11_mayTake_45 : decode cX11_mayTake 45 = .ok (.getfield 240, 3) := by decide +kernel
theorem dX11_mayTake_48 : decode cX11_mayTake 48 = .ok (.invokevirtual 325, 3) := by decide +kernel
theorem dX11_mayTake_51 : decode cX11_mayTake 51 = .ok (.ifCond .eq 7, 3) := by decide +kernel
theorem dX11_mayTake_54 : decode cX11_mayTake 54 = .ok (.iconst 1, 1) := by decide +kernel
theorem dX11_mayTake_55 : decode cX11_mayTake 55 = .ok (.goto 4, 3) := by decide +kernel
theorem dX11_mayTake_58 : decode cX11_mayTake 58 = .ok (.iconst 0, 1) := by decide +kernel
theorem dX11_mayTake_59 : decode cX11_mayTake 59 = .ok (.ireturn, 1) := by decide +kernel
theorem dX11_may_0 : decode cX11_may 0 = .ok (.aload_n 0, 1) := by decide +kernel
theorem dX11_may_1 : decode cX11_may 1 = .ok (.iload_n 1, 1) := by decide +kernel
theorem dX11_may_2 : decode cX11_may 2 = .ok (.invokevirtual 267, 3) := by decide +kernel
theorem dX11_may_5 : decode cX11_may 5 = .ok (.ifCond .ne 8, 3) := by decide +kernel
theorem dX11_may_8 : decode cX11_may 8 = .ok (.ldc 143, 2) := by decide +kernel
theorem dX11_may_10 : decode cX11_may 10 = .ok (.goto 16, 3) := by decide +kernel
theorem dX11_may_13 : decode cX11_may 13 = .ok (.aload_n 0, 1) := by decide +kernel
theorem dX11_may_14 : decode cX11_may 14 = .ok (.iload_n 1, 1) := by decide +kernel
theorem dX11_may_15 : decode cX11_may 15 = .ok (.invokevirtual 328, 3) := by decide +kernel
theorem dX11_may_18 : decode cX11_may 18 = .ok (.ifCond .eq 7, 3) := by decide +kernel
theorem dX11_may_21 : decode cX11_may 21 = .ok (.iconst 1, 1) := by decide +kernel
theorem dX11_may_22 : decode cX11_may 22 = .ok (.goto 4, 3) := by decide +kernel
theorem dX11_may_25 : decode cX11_may 25 = .ok (.iconst 0, 1) := by decide +kernel
theorem dX11_may_26 : decode cX11_may 26 = .ok (.ireturn, 1) := by decide +kernel
theorem dX11_takeBack_0 : decode cX11_takeBack 0 = .ok (.aload_n 0, 1) := by decide +kernel
theorem dX11_takeBack_1 : decode cX11_takeBack 1 = .ok (.iload_n 1, 1) := by decide +kernel
theorem dX11_takeBack_2 : decode cX11_takeBack 2 = .ok (.invokevirtual 267, 3) := by decide +kernel
theorem dX11_takeBack_5 : decode cX11_takeBack 5 = .ok (.ifCond .ne 7, 3) := by decide +kernel
theorem dX11_takeBack_8 : decode cX11_takeBack 8 = .ok (.ldc2_w 270, 3) := by decide +kernel
theorem dX11_takeBack_11 : decode cX11_takeBack 11 = .ok (.lreturn, 1) := by decide +kernel
theorem dX11_takeBack_12 : decode cX11_takeBack 12 = .ok (.aload_n 0, 1) := by decide +kernel
theorem dX11_takeBack_13 : decode cX11_takeBack 13 = .ok (.iload_n 1, 1) := by decide +kernel
theorem dX11_takeBack_14 : decode cX11_takeBack 14 = .ok (.invokevirtual 328, 3) := by decide +kernel
theorem dX11_takeBack_17 : decode cX11_takeBack 17 = .ok (.ifCond .ne 7, 3) := by decide +kernel
theorem dX11_takeBack_20 : decode cX11_takeBack 20 = .ok (.ldc2_w 331, 3) := by decide +kernel
theorem dX11_takeBack_23 : decode cX11_takeBack 23 = .ok (.lreturn, 1) := by decide +kernel
theorem dX11_takeBack_24 : decode cX11_takeBack 24 = .ok (.aload_n 0, 1) := by decide +kernel
theorem dX11_takeBack_25 : decode cX11_takeBack 25 = .ok (.getfield 103, 3) := by decide +kernel
theorem dX11_takeBack_28 : decode cX11_takeBack 28 = .ok (.aload_n 0, 1) := by decide +kernel
theorem dX11_takeBack_29 : decode cX11_takeBack 29 = .ok (.iload_n 1, 1) := by decide +kernel
theorem dX11_takeBack_30 : decode cX11_takeBack 30 = .ok (.invokevirtual 249, 3) := by decide +kernel
theorem dX11_takeBack_33 : decode cX11_takeBack 33 = .ok (.iconst 3, 1) := by decide +kernel
theorem dX11_takeBack_34 : decode cX11_takeBack 34 = .ok (.iastore, 1) := by decide +kernel
theorem dX11_takeBack_35 : decode cX11_takeBack 35 = .ok (.aload_n 0, 1) := by decide +kernel
theorem dX11_takeBack_36 : decode cX11_takeBack 36 = .ok (.getfield 96, 3) := by decide +kernel
theorem dX11_takeBack_39 : decode cX11_takeBack 39 = .ok (.aload_n 0, 1) := by decide +kernel
theorem dX11_takeBack_40 : decode cX11_takeBack 40 = .ok (.iload_n 1, 1) := by decide +kernel
theorem dX11_takeBack_41 : decode cX11_takeBack 41 = .ok (.invokevirtual 249, 3) := by decide +kernel
theorem dX11_takeBack_44 : decode cX11_takeBack 44 = .ok (.laload, 1) := by decide +kernel
theorem dX11_takeBack_45 : decode cX11_takeBack 45 = .ok (.lreturn, 1) := by decide +kernel
theorem dX11_soon_0 : decode cX11_soon 0 = .ok (.aload_n 0, 1) := by decide +kernel
theorem dX11_soon_1 : decode cX11_soon 1 = .ok (.iload_n 1, 1) := by decide +kernel
theorem dX11_soon_2 : decode cX11_soon 2 = .ok (.invokevirtual 267, 3) := by decide +kernel
theorem dX11_soon_5 : decode cX11_soon 5 = .ok (.ifCond .ne 6, 3) := by decide +kernel
theorem dX11_soon_8 : decode cX11_soon 8 = .ok (.ldc 143, 2) := by decide +kernel
theorem dX11_soon_10 : decode cX11_soon 10 = .ok (.ireturn, 1) := by decide +kernel
theorem dX11_soon_11 : decode cX11_soon 11 = .ok (.aload_n 0, 1) := by decide +kernel
theorem dX11_soon_12 : decode cX11_soon 12 = .ok (.getfield 103, 3) := by decide +kernel
theorem dX11_soon_15 : decode cX11_soon 15 = .ok (.aload_n 0, 1) := by decide +kernel
theorem dX11_soon_16 : decode cX11_soon 16 = .ok (.iload_n 1, 1) := by decide +kernel
theorem dX11_soon_17 : decode cX11_soon 17 = .ok (.invokevirtual 249, 3) := by decide +kernel
theorem dX11_soon_20 : decode cX11_soon 20 = .ok (.iaload, 1) := by decide +kernel
theorem dX11_soon_21 : decode cX11_soon 21 = .ok (.iconst 1, 1) := by decide +kernel
theorem dX11_soon_22 : decode cX11_soon 22 = .ok (.if_icmp .eq 6, 3) := by decide +kernel
theorem dX11_soon_25 : decode cX11_soon 25 = .ok (.ldc 144, 2) := by decide +kernel
theorem dX11_soon_27 : decode cX11_soon 27 = .ok (.ireturn, 1) := by decide +kernel
theorem dX11_soon_28 : decode cX11_soon 28 = .ok (.aload_n 0, 1) := by decide +kernel
theorem dX11_soon_29 : decode cX11_soon 29 = .ok (.aload_n 0, 1) := by decide +kernel
theorem dX11_soon_30 : decode cX11_soon 30 = .ok (.getfield 96, 3) := by decide +kernel
theorem dX11_soon_33 : decode cX11_soon 33 = .ok (.aload_n 0, 1) := by decide +kernel
theorem dX11_soon_34 : decode cX11_soon 34 = .ok (.iload_n 1, 1) := by decide +kernel
theorem dX11_soon_35 : decode cX11_soon 35 = .ok (.invokevirtual 249, 3) := by decide +kernel
theorem dX11_soon_38 : decode cX11_soon 38 = .ok (.laload, 1) := by decide +kernel
theorem dX11_soon_39 : decode cX11_soon 39 = .ok (.putfield 252, 3) := by decide +kernel
theorem dX11_soon_42 : decode cX11_soon 42 = .ok (.aload_n 0, 1) := by decide +kernel
theorem dX11_soon_43 : decode cX11_soon 43 = .ok (.aload_n 0, 1) := by decide +kernel
theorem dX11_soon_44 : decode cX11_soon 44 = .ok (.getfield 100, 3) := by decide +kernel
theorem dX11_soon_47 : decode cX11_soon 47 = .ok (.aload_n 0, 1) := by decide +kernel
theorem dX11_soon_48 : decode cX11_soon 48 = .ok (.iload_n 1, 1) := by decide +kernel
theorem dX11_soon_49 : decode cX11_soon 49 = .ok (.invokevirtual 249, 3) := by decide +kernel
theorem dX11_soon_52 : decode cX11_soon 52 = .ok (.laload, 1) := by decide +kernel
theorem dX11_soon_53 : decode cX11_soon 53 = .ok (.putfield 258, 3) := by decide +kernel
theorem dX11_soon_56 : decode cX11_soon 56 = .ok (.iconst 0, 1) := by decide +kernel
theorem dX11_soon_57 : decode cX11_soon 57 = .ok (.istore_n 2, 1) := by decide +kernel
theorem dX11_soon_58 : decode cX11_soon 58 = .ok (.iload_n 2, 1) := by decide +kernel
theorem dX11_soon_59 : decode cX11_soon 59 = .ok (.bipush 120, 2) := by decide +kernel
theorem dX11_soon_61 : decode cX11_soon 61 = .ok (.if_icmp .gt 42, 3) := by decide +kernel
theorem dX11_soon_64 : decode cX11_soon 64 = .ok (.aload_n 0, 1) := by decide +kernel
theorem dX11_soon_65 : decode cX11_soon 65 = .ok (.getfield 240, 3) := by decide +kernel
theorem dX11_soon_68 : decode cX11_soon 68 = .ok (.iload_n 2, 1) := by decide +kernel
theorem dX11_soon_69 : decode cX11_soon 69 = .ok (.iadd, 1) := by decide +kernel
theorem dX11_soon_70 : decode cX11_soon 70 = .ok (.sipush 599, 3) := by decide +kernel
theorem dX11_soon_73 : decode cX11_soon 73 = .ok (.if_icmp .gt 30, 3) := by decide +kernel
theorem dX11_soon_76 : decode cX11_soon 76 = .ok (.aload_n 0, 1) := by decide +kernel
theorem dX11_soon_77 : decode cX11_soon 77 = .ok (.iload_n 1, 1) := by decide +kernel
theorem dX11_soon_78 : decode cX11_soon 78 = .ok (.aload_n 0, 1) := by decide +kernel
theorem dX11_soon_79 : decode cX11_soon 79 = .ok (.getfield 240, 3) := by decide +kernel
theorem dX11_soon_82 : decode cX11_soon 82 = .ok (.iload_n 2, 1) := by decide +kernel
theorem dX11_soon_83 : decode cX11_soon 83 = .ok (.iadd, 1) := by decide +kernel
theorem dX11_soon_84 : decode cX11_soon 84 = .ok (.invokevirtual 325, 3) := by decide +kernel
theorem dX11_soon_87 : decode cX11_soon 87 = .ok (.ifCond .eq 5, 3) := by decide +kernel
theorem dX11_soon_90 : decode cX11_soon 90 = .ok (.iload_n 2, 1) := by decide +kernel
theorem dX11_soon_91 : decode cX11_soon 91 = .ok (.ireturn, 1) := by decide +kernel
theorem dX11_soon_92 : decode cX11_soon 92 = .ok (.aload_n 0, 1) := by decide +kernel
theorem dX11_soon_93 : decode cX11_soon 93 = .ok (.iload_n 1, 1) := by decide +kernel
theorem dX11_soon_94 : decode cX11_soon 94 = .ok (.invokevirtual 263, 3) := by decide +kernel
theorem dX11_soon_97 : decode cX11_soon 97 = .ok (.iinc 2 1, 3) := by decide +kernel
theorem dX11_soon_100 : decode cX11_soon 100 = .ok (.goto (-42), 3) := by decide +kernel
theorem dX11_soon_103 : decode cX11_soon 103 = .ok (.ldc 152, 2) := by decide +kernel
theorem dX11_soon_105 : decode cX11_soon 105 = .ok (.ireturn, 1) := by decide +kernel
theorem dX11_count_0 : decode cX11_count 0 = .ok (.iconst 0, 1) := by decide +kernel
theorem dX11_count_1 : decode cX11_count 1 = .ok (.istore_n 2, 1) := by decide +kernel
theorem dX11_count_2 : decode cX11_count 2 = .ok (.iconst 0, 1) := by decide +kernel
theorem dX11_count_3 : decode cX11_count 3 = .ok (.istore_n 3, 1) := by decide +kernel
theorem dX11_count_4 : decode cX11_count 4 = .ok (.iload_n 3, 1) := by decide +kernel
theorem dX11_count_5 : decode cX11_count 5 = .ok (.aload_n 0, 1) := by decide +kernel
theorem dX11_count_6 : decode cX11_count 6 = .ok (.getfield 237, 3) := by decide +kernel
theorem dX11_count_9 : decode cX11_count 9 = .ok (.if_icmp .ge 31, 3) := by decide +kernel
theorem dX11_count_12 : decode cX11_count 12 = .ok (.iload_n 2, 1) := by decide +kernel
theorem dX11_count_13 : decode cX11_count 13 = .ok (.aload_n 0, 1) := by decide +kernel
theorem dX11_count_14 : decode cX11_count 14 = .ok (.getfield 103, 3) := by decide +kernel
theorem dX11_count_17 : decode cX11_count 17 = .ok (.aload_n 0, 1) := by decide +kernel
theorem dX11_count_18 : decode cX11_count 18 = .ok (.iload_n 3, 1) := by decide +kernel
theorem dX11_count_19 : decode cX11_count 19 = .ok (.invokevirtual 249, 3) := by decide +kernel
theorem dX11_count_22 : decode cX11_count 22 = .ok (.iaload, 1) := by decide +kernel
theorem dX11_count_23 : decode cX11_count 23 = .ok (.iconst 1, 1) := by decide +kernel
theorem dX11_count_24 : decode cX11_count 24 = .ok (.if_icmp .ne 7, 3) := by decide +kernel
theorem dX11_count_27 : decode cX11_count 27 = .ok (.iconst 1, 1) := by decide +kernel
theorem dX11_count_28 : decode cX11_count 28 = .ok (.goto 4, 3) := by decide +kernel
theorem dX11_count_31 : decode cX11_count 31 = .ok (.iconst 0, 1) := by decide +kernel
theorem dX11_count_32 : decode cX11_count 32 = .ok (.iadd, 1) := by decide +kernel
theorem dX11_count_33 : decode cX11_count 33 = .ok (.istore_n 2, 1) := by decide +kernel
theorem dX11_count_34 : decode cX11_count 34 = .ok (.iinc 3 1, 3) := by decide +kernel
theorem dX11_count_37 : decode cX11_count 37 = .ok (.goto (-33), 3) := by decide +kernel
theorem dX11_count_40 : decode cX11_count 40 = .ok (.iload_n 1, 1) := by decide +kernel
theorem dX11_count_41 : decode cX11_count 41 = .ok (.tableswitch 84 0 7 #[47, 52, 57, 62, 67, 69, 74, 79], 47) := by decide +kernel
theorem dX11_count_88 : decode cX11_count 88 = .ok (.aload_n 0, 1) := by decide +kernel
theorem dX11_count_89 : decode cX11_count 89 = .ok (.getfield 135, 3) := by decide +kernel
theorem dX11_count_92 : decode cX11_count 92 = .ok (.ireturn, 1) := by decide +kernel
theorem dX11_count_93 : decode cX11_count 93 = .ok (.aload_n 0, 1) := by decide +kernel
theorem dX11_count_94 : decode cX11_count 94 = .ok (.getfield 145, 3) := by decide +kernel
theorem dX11_count_97 : decode cX11_count 97 = .ok (.ireturn, 1) := by decide +kernel
theorem dX11_count_98 : decode cX11_count 98 = .ok (.aload_n 0, 1) := by decide +kernel
theorem dX11_count_99 : decode cX11_count 99 = .ok (.getfield 218, 3) := by decide +kernel
theorem dX11_count_102 : decode cX11_count 102 = .ok (.ireturn, 1) := by decide +kernel
theorem dX11_count_103 : decode cX11_count 103 = .ok (.aload_n 0, 1) := by decide +kernel
theorem dX11_count_104 : decode cX11_count 104 = .ok (.getfield 237, 3) := by decide +kernel
theorem dX11_count_107 : decode cX11_count 107 = .ok (.ireturn, 1) := by decide +kernel
theorem dX11_count_108 : decode cX11_count 108 = .ok (.iload_n 2, 1) := by decide +kernel
theorem dX11_count_109 : decode cX11_count 109 = .ok (.ireturn, 1) := by decide +kernel
theorem dX11_count_110 : decode cX11_count 110 = .ok (.aload_n 0, 1) := by decide +kernel
theorem dX11_count_111 : decode cX11_count 111 = .ok (.getfield 276, 3) := by decide +kernel
theorem dX11_count_114 : decode cX11_count 114 = .ok (.ireturn, 1) := by decide +kernel
theorem dX11_count_115 : decode cX11_count 115 = .ok (.aload_n 0, 1) := by decide +kernel
theorem dX11_count_116 : decode cX11_count 116 = .ok (.getfield 240, 3) := by decide +kernel
theorem dX11_count_119 : decode cX11_count 119 = .ok (.ireturn, 1) := by decide +kernel
theorem dX11_count_120 : decode cX11_count 120 = .ok (.aload_n 0, 1) := by decide +kernel
theorem dX11_count_121 : decode cX11_count 121 = .ok (.getfield 7, 3) := by decide +kernel
theorem dX11_count_124 : decode cX11_count 124 = .ok (.ireturn, 1) := by decide +kernel
theorem dX11_count_125 : decode cX11_count 125 = .ok (.ldc 130, 2) := by decide +kernel
theorem dX11_count_127 : decode cX11_count 127 = .ok (.ireturn, 1) := by decide +kernel
theorem dJ6_bitCount_0f7a4_0 : decode cJ6_bitCount_0f7a4 0 = .ok (.iload_n 0, 1) := by decide +kernel
theorem dJ6_bitCount_0f7a4_1 : decode cJ6_bitCount_0f7a4 1 = .ok (.iload_n 0, 1) := by decide +kernel
theorem dJ6_bitCount_0f7a4_2 : decode cJ6_bitCount_0f7a4 2 = .ok (.iconst 1, 1) := by decide +kernel
theorem dJ6_bitCount_0f7a4_3 : decode cJ6_bitCount_0f7a4 3 = .ok (.iushr, 1) := by decide +kernel
theorem dJ6_bitCount_0f7a4_4 : decode cJ6_bitCount_0f7a4 4 = .ok (.ldc_w 265, 3) := by decide +kernel
theorem dJ6_bitCount_0f7a4_7 : decode cJ6_bitCount_0f7a4 7 = .ok (.iand, 1) := by decide +kernel
theorem dJ6_bitCount_0f7a4_8 : decode cJ6_bitCount_0f7a4 8 = .ok (.isub, 1) := by decide +kernel
theorem dJ6_bitCount_0f7a4_9 : decode cJ6_bitCount_0f7a4 9 = .ok (.istore_n 0, 1) := by decide +kernel
theorem dJ6_bitCount_0f7a4_10 : decode cJ6_bitCount_0f7a4 10 = .ok (.iload_n 0, 1) := by decide +kernel
theorem dJ6_bitCount_0f7a4_11 : decode cJ6_bitCount_0f7a4 11 = .ok (.ldc_w 266, 3) := by decide +kernel
theorem dJ6_bitCount_0f7a4_14 : decode cJ6_bitCount_0f7a4 14 = .ok (.iand, 1) := by decide +kernel
theorem dJ6_bitCount_0f7a4_15 : decode cJ6_bitCount_0f7a4 15 = .ok (.iload_n 0, 1) := by decide +kernel
theorem dJ6_bitCount_0f7a4_16 : decode cJ6_bitCount_0f7a4 16 = .ok (.iconst 2, 1) := by decide +kernel
theorem dJ6_bitCount_0f7a4_17 : decode cJ6_bitCount_0f7a4 17 = .ok (.iushr, 1) := by decide +kernel
theorem dJ6_bitCount_0f7a4_18 : decode cJ6_bitCount_0f7a4 18 = .ok (.ldc_w 266, 3) := by decide +kernel
theorem dJ6_bitCount_0f7a4_21 : decode cJ6_bitCount_0f7a4 21 = .ok (.iand, 1) := by decide +kernel
theorem dJ6_bitCount_0f7a4_22 : decode cJ6_bitCount_0f7a4 22 = .ok (.iadd, 1) := by decide +kernel
theorem dJ6_bitCount_0f7a4_23 : decode cJ6_bitCount_0f7a4 23 = .ok (.istore_n 0, 1) := by decide +kernel
theorem dJ6_bitCount_0f7a4_24 : decode cJ6_bitCount_0f7a4 24 = .ok (.iload_n 0, 1) := by decide +kernel
theorem dJ6_bitCount_0f7a4_25 : decode cJ6_bitCount_0f7a4 25 = .ok (.iload_n 0, 1) := by decide +kernel
theorem dJ6_bitCount_0f7a4_26 : decode cJ6_bitCount_0f7a4 26 = .ok (.iconst 4, 1) := by decide +kernel
theorem dJ6_bitCount_0f7a4_27 : decode cJ6_bitCount_0f7a4 27 = .ok (.iushr, 1) := by decide +kernel
theorem dJ6_bitCount_0f7a4_28 : decode cJ6_bitCount_0f7a4 28 = .ok (.iadd, 1) := by decide +kernel
theorem dJ6_bitCount_0f7a4_29 : decode cJ6_bitCount_0f7a4 29 = .ok (.ldc_w 267, 3) := by decide +kernel
theorem dJ6_bitCount_0f7a4_32 : decode cJ6_bitCount_0f7a4 32 = .ok (.iand, 1) := by decide +kernel
theorem dJ6_bitCount_0f7a4_33 : decode cJ6_bitCount_0f7a4 33 = .ok (.istore_n 0, 1) := by decide +kernel
theorem dJ6_bitCount_0f7a4_34 : decode cJ6_bitCount_0f7a4 34 = .ok (.iload_n 0, 1) := by decide +kernel
theorem dJ6_bitCount_0f7a4_35 : decode cJ6_bitCount_0f7a4 35 = .ok (.iload_n 0, 1) := by decide +kernel
theorem dJ6_bitCount_0f7a4_36 : decode cJ6_bitCount_0f7a4 36 = .ok (.bipush 8, 2) := by decide +kernel
theorem dJ6_bitCount_0f7a4_38 : decode cJ6_bitCount_0f7a4 38 = .ok (.iushr, 1) := by decide +kernel
theorem dJ6_bitCount_0f7a4_39 : decode cJ6_bitCount_0f7a4 39 = .ok (.iadd, 1) := by decide +kernel
theorem dJ6_bitCount_0f7a4_40 : decode cJ6_bitCount_0f7a4 40 = .ok (.istore_n 0, 1) := by decide +kernel
theorem dJ6_bitCount_0f7a4_41 : decode cJ6_bitCount_0f7a4 41 = .ok (.iload_n 0, 1) := by decide +kernel
theorem dJ6_bitCount_0f7a4_42 : decode cJ6_bitCount_0f7a4 42 = .ok (.iload_n 0, 1) := by decide +kernel
theorem dJ6_bitCount_0f7a4_43 : decode cJ6_bitCount_0f7a4 43 = .ok (.bipush 16, 2) := by decide +kernel
theorem dJ6_bitCount_0f7a4_45 : decode cJ6_bitCount_0f7a4 45 = .ok (.iushr, 1) := by decide +kernel
theorem dJ6_bitCount_0f7a4_46 : decode cJ6_bitCount_0f7a4 46 = .ok (.iadd, 1) := by decide +kernel
theorem dJ6_bitCount_0f7a4_47 : decode cJ6_bitCount_0f7a4 47 = .ok (.istore_n 0, 1) := by decide +kernel
theorem dJ6_bitCount_0f7a4_48 : decode cJ6_bitCount_0f7a4 48 = .ok (.iload_n 0, 1) := by decide +kernel
theorem dJ6_bitCount_0f7a4_49 : decode cJ6_bitCount_0f7a4 49 = .ok (.bipush 63, 2) := by decide +kernel
theorem dJ6_bitCount_0f7a4_51 : decode cJ6_bitCount_0f7a4 51 = .ok (.iand, 1) := by decide +kernel
theorem dJ6_bitCount_0f7a4_52 : decode cJ6_bitCount_0f7a4 52 = .ok (.ireturn, 1) := by decide +kernel
theorem dJ13_bitCount_95d88_0 : decode cJ13_bitCount_95d88 0 = .ok (.lload_n 0, 1) := by decide +kernel
theorem dJ13_bitCount_95d88_1 : decode cJ13_bitCount_95d88 1 = .ok (.lload_n 0, 1) := by decide +kernel
theorem dJ13_bitCount_95d88_2 : decode cJ13_bitCount_95d88 2 = .ok (.iconst 1, 1) := by decide +kernel
theorem dJ13_bitCount_95d88_3 : decode cJ13_bitCount_95d88 3 = .ok (.lushr, 1) := by decide +kernel
theorem dJ13_bitCount_95d88_4 : decode cJ13_bitCount_95d88 4 = .ok (.ldc2_w 314, 3) := by decide +kernel
theorem dJ13_bitCount_95d88_7 : decode cJ13_bitCount_95d88 7 = .ok (.land, 1) := by decide +kernel
theorem dJ13_bitCount_95d88_8 : decode cJ13_bitCount_95d88 8 = .ok (.lsub, 1) := by decide +kernel
theorem dJ13_bitCount_95d88_9 : decode cJ13_bitCount_95d88 9 = .ok (.lstore_n 0, 1) := by decide +kernel
theorem dJ13_bitCount_95d88_10 : decode cJ13_bitCount_95d88 10 = .ok (.lload_n 0, 1) := by decide +kernel
theorem dJ13_bitCount_95d88_11 : decode cJ13_bitCount_95d88 11 = .ok (.ldc2_w 316, 3) := by decide +kernel
theorem dJ13_bitCount_95d88_14 : decode cJ13_bitCount_95d88 14 = .ok (.land, 1) := by decide +kernel
theorem dJ13_bitCount_95d88_15 : decode cJ13_bitCount_95d88 15 = .ok (.lload_n 0, 1) := by decide +kernel
theorem dJ13_bitCount_95d88_16 : decode cJ13_bitCount_95d88 16 = .ok (.iconst 2, 1) := by decide +kernel
theorem dJ13_bitCount_95d88_17 : decode cJ13_bitCount_95d88 17 = .ok (.lushr, 1) := by decide +kernel
theorem dJ13_bitCount_95d88_18 : decode cJ13_bitCount_95d88 18 = .ok (.ldc2_w 316, 3) := by decide +kernel
theorem dJ13_bitCount_95d88_21 : decode cJ13_bitCount_95d88 21 = .ok (.land, 1) := by decide +kernel
theorem dJ13_bitCount_95d88_22 : decode cJ13_bitCount_95d88 22 = .ok (.ladd, 1) := by decide +kernel
theorem dJ13_bitCount_95d88_23 : decode cJ13_bitCount_95d88 23 = .ok (.lstore_n 0, 1) := by decide +kernel
theorem dJ13_bitCount_95d88_24 : decode cJ13_bitCount_95d88 24 = .ok (.lload_n 0, 1) := by decide +kernel
theorem dJ13_bitCount_95d88_25 : decode cJ13_bitCount_95d88 25 = .ok (.lload_n 0, 1) := by decide +kernel
theorem dJ13_bitCount_95d88_26 : decode cJ13_bitCount_95d88 26 = .ok (.iconst 4, 1) := by decide +kernel
theorem dJ13_bitCount_95d88_27 : decode cJ13_bitCount_95d88 27 = .ok (.lushr, 1) := by decide +kernel
theorem dJ13_bitCount_95d88_28 : decode cJ13_bitCount_95d88 28 = .ok (.ladd, 1) := by decide +kernel
theorem dJ13_bitCount_95d88_29 : decode cJ13_bitCount_95d88 29 = .ok (.ldc2_w 318, 3) := by decide +kernel
theorem dJ13_bitCount_95d88_32 : decode cJ13_bitCount_95d88 32 = .ok (.land, 1) := by decide +kernel
theorem dJ13_bitCount_95d88_33 : decode cJ13_bitCount_95d88 33 = .ok (.lstore_n 0, 1) := by decide +kernel
theorem dJ13_bitCount_95d88_34 : decode cJ13_bitCount_95d88 34 = .ok (.lload_n 0, 1) := by decide +kernel
theorem dJ13_bitCount_95d88_35 : decode cJ13_bitCount_95d88 35 = .ok (.lload_n 0, 1) := by decide +kernel
theorem dJ13_bitCount_95d88_36 : decode cJ13_bitCount_95d88 36 = .ok (.bipush 8, 2) := by decide +kernel
theorem dJ13_bitCount_95d88_38 : decode cJ13_bitCount_95d88 38 = .ok (.lushr, 1) := by decide +kernel
theorem dJ13_bitCount_95d88_39 : decode cJ13_bitCount_95d88 39 = .ok (.ladd, 1) := by decide +kernel
theorem dJ13_bitCount_95d88_40 : decode cJ13_bitCount_95d88 40 = .ok (.lstore_n 0, 1) := by decide +kernel
theorem dJ13_bitCount_95d88_41 : decode cJ13_bitCount_95d88 41 = .ok (.lload_n 0, 1) := by decide +kernel
theorem dJ13_bitCount_95d88_42 : decode cJ13_bitCount_95d88 42 = .ok (.lload_n 0, 1) := by decide +kernel
theorem dJ13_bitCount_95d88_43 : decode cJ13_bitCount_95d88 43 = .ok (.bipush 16, 2) := by decide +kernel
theorem dJ13_bitCount_95d88_45 : decode cJ13_bitCount_95d88 45 = .ok (.lushr, 1) := by decide +kernel
theorem dJ13_bitCount_95d88_46 : decode cJ13_bitCount_95d88 46 = .ok (.ladd, 1) := by decide +kernel
theorem dJ13_bitCount_95d88_47 : decode cJ13_bitCount_95d88 47 = .ok (.lstore_n 0, 1) := by decide +kernel
theorem dJ13_bitCount_95d88_48 : decode cJ13_bitCount_95d88 48 = .ok (.lload_n 0, 1) := by decide +kernel
theorem dJ13_bitCount_95d88_49 : decode cJ13_bitCount_95d88 49 = .ok (.lload_n 0, 1) := by decide +kernel
theorem dJ13_bitCount_95d88_50 : decode cJ13_bitCount_95d88 50 = .ok (.bipush 32, 2) := by decide +kernel
theorem dJ13_bitCount_95d88_52 : decode cJ13_bitCount_95d88 52 = .ok (.lushr, 1) := by decide +kernel
theorem dJ13_bitCount_95d88_53 : decode cJ13_bitCount_95d88 53 = .ok (.ladd, 1) := by decide +kernel
theorem dJ13_bitCount_95d88_54 : decode cJ13_bitCount_95d88 54 = .ok (.lstore_n 0, 1) := by decide +kernel
theorem dJ13_bitCount_95d88_55 : decode cJ13_bitCount_95d88 55 = .ok (.lload_n 0, 1) := by decide +kernel
theorem dJ13_bitCount_95d88_56 : decode cJ13_bitCount_95d88 56 = .ok (.l2i, 1) := by decide +kernel
theorem dJ13_bitCount_95d88_57 : decode cJ13_bitCount_95d88 57 = .ok (.bipush 127, 2) := by decide +kernel
theorem dJ13_bitCount_95d88_59 : decode cJ13_bitCount_95d88 59 = .ok (.iand, 1) := by decide +kernel
theorem dJ13_bitCount_95d88_60 : decode cJ13_bitCount_95d88 60 = .ok (.ireturn, 1) := by decide +kernel
theorem dJ9_max_7cf53_0 : decode cJ9_max_7cf53 0 = .ok (.iload_n 0, 1) := by decide +kernel
theorem dJ9_max_7cf53_1 : decode cJ9_max_7cf53 1 = .ok (.iload_n 1, 1) := by decide +kernel
theorem dJ9_max_7cf53_2 : decode cJ9_max_7cf53 2 = .ok (.if_icmp .lt 7, 3) := by decide +kernel
theorem dJ9_max_7cf53_5 : decode cJ9_max_7cf53 5 = .ok (.iload_n 0, 1) := by decide +kernel
theorem dJ9_max_7cf53_6 : decode cJ9_max_7cf53 6 = .ok (.goto 4, 3) := by decide +kernel
theorem dJ9_max_7cf53_9 : decode cJ9_max_7cf53 9 = .ok (.iload_n 1, 1) := by decide +kernel
