/-! decode rows (from claim/NAMES.whole.lean.txt) -/
theorem dX11_mirror_36 : decode cX11_mirror 36 = .ok (.iload_n 2, 1) := by decide +kernel
theorem dX11_mirror_37 : decode cX11_mirror 37 = .ok (.aload_n 0, 1) := by decide +kernel
theorem dX11_mirror_38 : decode cX11_mirror 38 = .ok (.getfield 135, 3) := by decide +kernel
theorem dX11_mirror_41 : decode cX11_mirror 41 = .ok (.if_icmp .ge 46, 3) := by decide +kernel
theorem dX11_mirror_44 : decode cX11_mirror 44 = .ok (.aload_n 0, 1) := by decide +kernel
theorem dX11_mirror_45 : decode cX11_mirror 45 = .ok (.getfield 7, 3) := by decide +kernel
theorem dX11_mirror_48 : decode cX11_mirror 48 = .ok (.aload_n 0, 1) := by decide +kernel
theorem dX11_mirror_49 : decode cX11_mirror 49 = .ok (.iload_n 2, 1) := by decide +kernel
theorem dX11_mirror_50 : decode cX11_mirror 50 = .ok (.iconst 1, 1) := by decide +kernel
theorem dX11_mirror_51 : decode cX11_mirror 51 = .ok (.invokevirtual 148, 3) := by decide +kernel
theorem dX11_mirror_54 : decode cX11_mirror 54 = .ok (.isub, 1) := by decide +kernel
theorem dX11_mirror_55 : decode cX11_mirror 55 = .ok (.istore_n 3, 1) := by decide +kernel
theorem dX11_mirror_56 : decode cX11_mirror 56 = .ok (.iload_n 1, 1) := by decide +kernel
theorem dX11_mirror_57 : decode cX11_mirror 57 = .ok (.iload_n 3, 1) := by decide +kernel
theorem dX11_mirror_58 : decode cX11_mirror 58 = .ok (.aload_n 0, 1) := by decide +kernel
theorem dX11_mirror_59 : decode cX11_mirror 59 = .ok (.getfield 13, 3) := by decide +kernel
theorem dX11_mirror_62 : decode cX11_mirror 62 = .ok (.iload_n 2, 1) := by decide +kernel
theorem dX11_mirror_63 : decode cX11_mirror 63 = .ok (.iaload, 1) := by decide +kernel
theorem dX11_mirror_64 : decode cX11_mirror 64 = .ok (.if_icmp .eq 7, 3) := by decide +kernel
theorem dX11_mirror_67 : decode cX11_mirror 67 = .ok (.iconst 1, 1) := by decide +kernel
theorem dX11_mirror_68 : decode cX11_mirror 68 = .ok (.goto 4, 3) := by decide +kernel
theorem dX11_mirror_71 : decode cX11_mirror 71 = .ok (.iconst 0, 1) := by decide +kernel
theorem dX11_mirror_72 : decode cX11_mirror 72 = .ok (.iadd, 1) := by decide +kernel
theorem dX11_mirror_73 : decode cX11_mirror 73 = .ok (.istore_n 1, 1) := by decide +kernel
theorem dX11_mirror_74 : decode cX11_mirror 74 = .ok (.aload_n 0, 1) := by decide +kernel
theorem dX11_mirror_75 : decode cX11_mirror 75 = .ok (.getfield 13, 3) := by decide +kernel
theorem dX11_mirror_78 : decode cX11_mirror 78 = .ok (.iload_n 2, 1) := by decide +kernel
theorem dX11_mirror_79 : decode cX11_mirror 79 = .ok (.iload_n 3, 1) := by decide +kernel
theorem dX11_mirror_80 : decode cX11_mirror 80 = .ok (.iastore, 1) := by decide +kernel
theorem dX11_mirror_81 : decode cX11_mirror 81 = .ok (.iinc 2 1, 3) := by decide +kernel
theorem dX11_mirror_84 : decode cX11_mirror 84 = .ok (.goto (-48), 3) := by decide +kernel
theorem dX11_mirror_87 : decode cX11_mirror 87 = .ok (.iconst 0, 1) := by decide +kernel
theorem dX11_mirror_88 : decode cX11_mirror 88 = .ok (.istore_n 2, 1) := by decide +kernel
theorem dX11_mirror_89 : decode cX11_mirror 89 = .ok (.iload_n 2, 1) := by decide +kernel
theorem dX11_mirror_90 : decode cX11_mirror 90 = .ok (.aload_n 0, 1) := by decide +kernel
theorem dX11_mirror_91 : decode cX11_mirror 91 = .ok (.getfield 145, 3) := by decide +kernel
theorem dX11_mirror_94 : decode cX11_mirror 94 = .ok (.if_icmp .ge 37, 3) := by decide +kernel
theorem dX11_mirror_97 : decode cX11_mirror 97 = .ok (.aload_n 0, 1) := by decide +kernel
theorem dX11_mirror_98 : decode cX11_mirror 98 = .ok (.getfield 30, 3) := by decide +kernel
theorem dX11_mirror_101 : decode cX11_mirror 101 = .ok (.iload_n 2, 1) := by decide +kernel
theorem dX11_mirror_102 : decode cX11_mirror 102 = .ok (.iconst 1, 1) := by decide +kernel
theorem dX11_mirror_103 : decode cX11_mirror 103 = .ok (.aload_n 0, 1) := by decide +kernel
theorem dX11_mirror_104 : decode cX11_mirror 104 = .ok (.getfield 30, 3) := by decide +kernel
theorem dX11_mirror_107 : decode cX11_mirror 107 = .ok (.iload_n 2, 1) := by decide +kernel
theorem dX11_mirror_108 : decode cX11_mirror 108 = .ok (.iaload, 1) := by decide +kernel
theorem dX11_mirror_109 : decode cX11_mirror 109 = .ok (.isub, 1) := by decide +kernel
theorem dX11_mirror_110 : decode cX11_mirror 110 = .ok (.iastore, 1) := by decide +kernel
theorem dX11_mirror_111 : decode cX11_mirror 111 = .ok (.aload_n 0, 1) := by decide +kernel
theorem dX11_mirror_112 : decode cX11_mirror 112 = .ok (.getfield 36, 3) := by decide +kernel
theorem dX11_mirror_115 : decode cX11_mirror 115 = .ok (.iload_n 2, 1) := by decide +kernel
theorem dX11_mirror_116 : decode cX11_mirror 116 = .ok (.iconst 1, 1) := by decide +kernel
theorem dX11_mirror_117 : decode cX11_mirror 117 = .ok (.aload_n 0, 1) := by decide +kernel
theorem dX11_mirror_118 : decode cX11_mirror 118 = .ok (.getfield 36, 3) := by decide +kernel
theorem dX11_mirror_121 : decode cX11_mirror 121 = .ok (.iload_n 2, 1) := by decide +kernel
theorem dX11_mirror_122 : decode cX11_mirror 122 = .ok (.iaload, 1) := by decide +kernel
theorem dX11_mirror_123 : decode cX11_mirror 123 = .ok (.isub, 1) := by decide +kernel
theorem dX11_mirror_124 : decode cX11_mirror 124 = .ok (.iastore, 1) := by decide +kernel
theorem dX11_mirror_125 : decode cX11_mirror 125 = .ok (.iinc 2 1, 3) := by decide +kernel
theorem dX11_mirror_128 : decode cX11_mirror 128 = .ok (.goto (-39), 3) := by decide +kernel
theorem dX11_mirror_131 : decode cX11_mirror 131 = .ok (.iload_n 1, 1) := by decide +kernel
theorem dX11_mirror_132 : decode cX11_mirror 132 = .ok (.ireturn, 1) := by decide +kernel
theorem dX11_isAcross_0 : decode cX11_isAcross 0 = .ok (.aload_n 0, 1) := by decide +kernel
theorem dX11_isAcross_1 : decode cX11_isAcross 1 = .ok (.getfield 13, 3) := by decide +kernel
theorem dX11_isAcross_4 : decode cX11_isAcross 4 = .ok (.iload_n 1, 1) := by decide +kernel
theorem dX11_isAcross_5 : decode cX11_isAcross 5 = .ok (.iaload, 1) := by decide +kernel
theorem dX11_isAcross_6 : decode cX11_isAcross 6 = .ok (.iload_n 2, 1) := by decide +kernel
theorem dX11_isAcross_7 : decode cX11_isAcross 7 = .ok (.if_icmp .ge 17, 3) := by decide +kernel
theorem dX11_isAcross_10 : decode cX11_isAcross 10 = .ok (.aload_n 0, 1) := by decide +kernel
theorem dX11_isAcross_11 : decode cX11_isAcross 11 = .ok (.iload_n 1, 1) := by decide +kernel
theorem dX11_isAcross_12 : decode cX11_isAcross 12 = .ok (.iconst 1, 1) := by decide +kernel
theorem dX11_isAcross_13 : decode cX11_isAcross 13 = .ok (.invokevirtual 148, 3) := by decide +kernel
theorem dX11_isAcross_16 : decode cX11_isAcross 16 = .ok (.iload_n 2, 1) := by decide +kernel
theorem dX11_isAcross_17 : decode cX11_isAcross 17 = .ok (.if_icmp .le 7, 3) := by decide +kernel
theorem dX11_isAcross_20 : decode cX11_isAcross 20 = .ok (.iconst 1, 1) := by decide +kernel
theorem dX11_isAcross_21 : decode cX11_isAcross 21 = .ok (.goto 4, 3) := by decide +kernel
theorem dX11_isAcross_24 : decode cX11_isAcross 24 = .ok (.iconst 0, 1) := by decide +kernel
theorem dX11_isAcross_25 : decode cX11_isAcross 25 = .ok (.ireturn, 1) := by decide +kernel
theorem dX11_then_0 : decode cX11_then 0 = .ok (.aload_n 0, 1) := by decide +kernel
theorem dX11_then_1 : decode cX11_then 1 = .ok (.iload_n 1, 1) := by decide +kernel
theorem dX11_then_2 : decode cX11_then 2 = .ok (.iload_n 2, 1) := by decide +kernel
theorem dX11_then_3 : decode cX11_then 3 = .ok (.invokevirtual 148, 3) := by decide +kernel
theorem dX11_then_6 : decode cX11_then 6 = .ok (.istore 5, 2) := by decide +kernel
theorem dX11_then_8 : decode cX11_then 8 = .ok (.aload_n 0, 1) := by decide +kernel
theorem dX11_then_9 : decode cX11_then 9 = .ok (.getfield 13, 3) := by decide +kernel
theorem dX11_then_12 : decode cX11_then 12 = .ok (.iload_n 1, 1) := by decide +kernel
theorem dX11_then_13 : decode cX11_then 13 = .ok (.iaload, 1) := by decide +kernel
theorem dX11_then_14 : decode cX11_then 14 = .ok (.iload_n 3, 1) := by decide +kernel
theorem dX11_then_15 : decode cX11_then 15 = .ok (.if_icmp .ge 17, 3) := by decide +kernel
theorem dX11_then_18 : decode cX11_then 18 = .ok (.iload_n 2, 1) := by decide +kernel
theorem dX11_then_19 : decode cX11_then 19 = .ok (.iconst 1, 1) := by decide +kernel
theorem dX11_then_20 : decode cX11_then 20 = .ok (.if_icmp .ne 16, 3) := by decide +kernel
theorem dX11_then_23 : decode cX11_then 23 = .ok (.aload_n 0, 1) := by decide +kernel
theorem dX11_then_24 : decode cX11_then 24 = .ok (.iload_n 1, 1) := by decide +kernel
theorem dX11_then_25 : decode cX11_then 25 = .ok (.iload_n 3, 1) := by decide +kernel
theorem dX11_then_26 : decode cX11_then 26 = .ok (.invokevirtual 153, 3) := by decide +kernel
theorem dX11_then_29 : decode cX11_then 29 = .ok (.ifCond .eq 7, 3) := by decide +kernel
theorem dX11_then_32 : decode cX11_then 32 = .ok (.iconst 1, 1) := by decide +kernel
theorem dX11_then_33 : decode cX11_then 33 = .ok (.goto 4, 3) := by decide +kernel
theorem dX11_then_36 : decode cX11_then 36 = .ok (.iconst 0, 1) := by decide +kernel
theorem dX11_then_37 : decode cX11_then 37 = .ok (.istore 6, 2) := by decide +kernel
theorem dX11_then_39 : decode cX11_then 39 = .ok (.iload 6, 2) := by decide +kernel
theorem dX11_then_41 : decode cX11_then 41 = .ok (.ifCond .eq 11, 3) := by decide +kernel
theorem dX11_then_44 : decode cX11_then 44 = .ok (.iload 5, 2) := by decide +kernel
theorem dX11_then_46 : decode cX11_then 46 = .ok (.iload 4, 2) := by decide +kernel
theorem dX11_then_48 : decode cX11_then 48 = .ok (.iadd, 1) := by decide +kernel
theorem dX11_then_49 : decode cX11_then 49 = .ok (.goto 5, 3) := by decide +kernel
theorem dX11_then_52 : decode cX11_then 52 = .ok (.iload 5, 2) := by decide +kernel
theorem dX11_then_54 : decode cX11_then 54 = .ok (.ireturn, 1) := by decide +kernel
theorem dX11_whyNot_0 : decode cX11_whyNot 0 = .ok (.iconst 0, 1) := by decide +kernel
theorem dX11_whyNot_1 : decode cX11_whyNot 1 = .ok (.istore_n 3, 1) := by decide +kernel
theorem dX11_whyNot_2 : decode cX11_whyNot 2 = .ok (.iload_n 3, 1) := by decide +kernel
theorem dX11_whyNot_3 : decode cX11_whyNot 3 = .ok (.aload_n 0, 1) := by decide +kernel
theorem dX11_whyNot_4 : decode cX11_whyNot 4 = .ok (.getfield 135, 3) := by decide +kernel
theorem dX11_whyNot_7 : decode cX11_whyNot 7 = .ok (.if_icmp .ge 32, 3) := by decide +kernel
theorem dX11_whyNot_10 : decode cX11_whyNot 10 = .ok (.aload_n 0, 1) := by decide +kernel
theorem dX11_whyNot_11 : decode cX11_whyNot 11 = .ok (.iload_n 3, 1) := by decide +kernel
theorem dX11_whyNot_12 : decode cX11_whyNot 12 = .ok (.iload_n 1, 1) := by decide +kernel
theorem dX11_whyNot_13 : decode cX11_whyNot 13 = .ok (.invokevirtual 153, 3) := by decide +kernel
theorem dX11_whyNot_16 : decode cX11_whyNot 16 = .ok (.ifCond .eq 17, 3) := by decide +kernel
theorem dX11_whyNot_19 : decode cX11_whyNot 19 = .ok (.aload_n 0, 1) := by decide +kernel
theorem dX11_whyNot_20 : decode cX11_whyNot 20 = .ok (.getfield 23, 3) := by decide +kernel
theorem dX11_whyNot_23 : decode cX11_whyNot 23 = .ok (.iload_n 3, 1) := by decide +kernel
theorem dX11_whyNot_24 : decode cX11_whyNot 24 = .ok (.baload, 1) := by decide +kernel
theorem dX11_whyNot_25 : decode cX11_whyNot 25 = .ok (.ifCond .eq 8, 3) := by decide +kernel
theorem dX11_whyNot_28 : decode cX11_whyNot 28 = .ok (.bipush 100, 2) := by decide +kernel
theorem dX11_whyNot_30 : decode cX11_whyNot 30 = .ok (.iload_n 3, 1) := by decide +kernel
theorem dX11_whyNot_31 : decode cX11_whyNot 31 = .ok (.iadd, 1) := by decide +kernel
theorem dX11_whyNot_32 : decode cX11_whyNot 32 = .ok (.ireturn, 1) := by decide +kernel
theorem dX11_whyNot_33 : decode cX11_whyNot 33 = .ok (.iinc 3 1, 3) := by decide +kernel
theorem dX11_whyNot_36 : decode cX11_whyNot 36 = .ok (.goto (-34), 3) := by decide +kernel
theorem dX11_whyNot_39 : decode cX11_whyNot 39 = .ok (.iconst 0, 1) := by decide +kernel
theorem dX11_whyNot_40 : decode cX11_whyNot 40 = .ok (.istore_n 3, 1) := by decide +kernel
theorem dX11_whyNot_41 : decode cX11_whyNot 41 = .ok (.iload_n 3, 1) := by decide +kernel
theorem dX11_whyNot_42 : decode cX11_whyNot 42 = .ok (.aload_n 0, 1) := by decide +kernel
theorem dX11_whyNot_43 : decode cX11_whyNot 43 = .ok (.getfield 145, 3) := by decide +kernel
theorem dX11_whyNot_46 : decode cX11_whyNot 46 = .ok (.if_icmp .ge 101, 3) := by decide +kernel
theorem dX11_whyNot_49 : decode cX11_whyNot 49 = .ok (.aload_n 0, 1) := by decide +kernel
theorem dX11_whyNot_50 : decode cX11_whyNot 50 = .ok (.aload_n 0, 1) := by decide +kernel
theorem dX11_whyNot_51 : decode cX11_whyNot 51 = .ok (.getfield 27, 3) := by decide +kernel
theorem dX11_whyNot_54 : decode cX11_whyNot 54 = .ok (.iload_n 3, 1) := by decide +kernel
theorem dX11_whyNot_55 : decode cX11_whyNot 55 = .ok (.iaload, 1) := by decide +kernel
theorem dX11_whyNot_56 : decode cX11_whyNot 56 = .ok (.aload_n 0, 1) := by decide +kernel
theorem dX11_whyNot_57 : decode cX11_whyNot 57 = .ok (.getfield 30, 3) := by decide +kernel
theorem dX11_whyNot_60 : decode cX11_whyNot 60 = .ok (.iload_n 3, 1) := by decide +kernel
theorem dX11_whyNot_61 : decode cX11_whyNot 61 = .ok (.iaload, 1) := by decide +kernel
theorem dX11_whyNot_62 : decode cX11_whyNot 62 = .ok (.invokevirtual 148, 3) := by decide +kernel
theorem dX11_whyNot_65 : decode cX11_whyNot 65 = .ok (.aload_n 0, 1) := by decide +kernel
theorem dX11_whyNot_66 : decode cX11_whyNot 66 = .ok (.aload_n 0, 1) := by decide +kernel
theorem dX11_whyNot_67 : decode cX11_whyNot 67 = .ok (.getfield 33, 3) := by decide +kernel
theorem dX11_whyNot_70 : decode cX11_whyNot 70 = .ok (.iload_n 3, 1) := by decide +kernel
theorem dX11_whyNot_71 : decode cX11_whyNot 71 = .ok (.iaload, 1) := by decide +kernel
theorem dX11_whyNot_72 : decode cX11_whyNot 72 = .ok (.aload_n 0, 1) := by decide +kernel
theorem dX11_whyNot_73 : decode cX11_whyNot 73 = .ok (.getfield 36, 3) := by decide +kernel
theorem dX11_whyNot_76 : decode cX11_whyNot 76 = .ok (.iload_n 3, 1) := by decide +kernel
theorem dX11_whyNot_77 : decode cX11_whyNot 77 = .ok (.iaload, 1) := by decide +kernel
theorem dX11_whyNot_78 : decode cX11_whyNot 78 = .ok (.invokevirtual 148, 3) := by decide +kernel
theorem dX11_whyNot_81 : decode cX11_whyNot 81 = .ok (.if_icmp .ne 7, 3) := by decide +kernel
theorem dX11_whyNot_84 : decode cX11_whyNot 84 = .ok (.iconst 1, 1) := by decide +kernel
theorem dX11_whyNot_85 : decode cX11_whyNot 85 = .ok (.goto 4, 3) := by decide +kernel
theorem dX11_whyNot_88 : decode cX11_whyNot 88 = .ok (.iconst 0, 1) := by decide +kernel
theorem dX11_whyNot_89 : decode cX11_whyNot 89 = .ok (.istore 4, 2) := by decide +kernel
theorem dX11_whyNot_91 : decode cX11_whyNot 91 = .ok (.iload 4, 2) := by decide +kernel
theorem dX11_whyNot_93 : decode cX11_whyNot 93 = .ok (.ifCond .eq 48, 3) := by decide +kernel
theorem dX11_whyNot_96 : decode cX11_whyNot 96 = .ok (.aload_n 0, 1) := by decide +kernel
theorem dX11_whyNot_97 : decode cX11_whyNot 97 = .ok (.aload_n 0, 1) := by decide +kernel
theorem dX11_whyNot_98 : decode cX11_whyNot 98 = .ok (.getfield 27, 3) := by decide +kernel
theorem dX11_whyNot_101 : decode cX11_whyNot 101 = .ok (.iload_n 3, 1) := by decide +kernel
theorem dX11_whyNot_102 : decode cX11_whyNot 102 = .ok (.iaload, 1) := by decide +kernel
theorem dX11_whyNot_103 : decode cX11_whyNot 103 = .ok (.aload_n 0, 1) := by decide +kernel
theorem dX11_whyNot_104 : decode cX11_whyNot 104 = .ok (.getfield 30, 3) := by decide +kernel
theorem dX11_whyNot_107 : decode cX11_whyNot 107 = .ok (.iload_n 3, 1) := by decide +kernel
theorem dX11_whyNot_108 : decode cX11_whyNot 108 = .ok (.iaload, 1) := by decide +kernel
theorem dX11_whyNot_109 : decode cX11_whyNot 109 = .ok (.iload_n 1, 1) := by decide +kernel
theorem dX11_whyNot_110 : decode cX11_whyNot 110 = .ok (.iload_n 2, 1) := by decide +kernel
theorem dX11_whyNot_111 : decode cX11_whyNot 111 = .ok (.invokevirtual 157, 3) := by decide +kernel
theorem dX11_whyNot_114 : decode cX11_whyNot 114 = .ok (.aload_n 0, 1) := by decide +kernel
theorem dX11_whyNot_115 : decode cX11_whyNot 115 = .ok (.aload_n 0, 1) := by decide +kernel
theorem dX11_whyNot_116 : decode cX11_whyNot 116 = .ok (.getfield 33, 3) := by decide +kernel
theorem dX11_whyNot_119 : decode cX11_whyNot 119 = .ok (.iload_n 3, 1) := by decide +kernel
theorem dX11_whyNot_120 : decode cX11_whyNot 120 = .ok (.iaload, 1) := by decide +kernel
theorem dX11_whyNot_121 : decode cX11_whyNot 121 = .ok (.aload_n 0, 1) := by decide +kernel
theorem dX11_whyNot_122 : decode cX11_whyNot 122 = .ok (.getfield 36, 3) := by decide +kernel
theorem dX11_whyNot_125 : decode cX11_whyNot 125 = .ok (.iload_n 3, 1) := by decide +kernel
theorem dX11_whyNot_126 : decode cX11_whyNot 126 = .ok (.iaload, 1) := by decide +kernel
theorem dX11_whyNot_127 : decode cX11_whyNot 127 = .ok (.iload_n 1, 1) := by decide +kernel
theorem dX11_whyNot_128 : decode cX11_whyNot 128 = .ok (.iload_n 2, 1) := by decide +kernel
theorem dX11_whyNot_129 : decode cX11_whyNot 129 = .ok (.invokevirtual 157, 3) := by decide +kernel
theorem dX11_whyNot_132 : decode cX11_whyNot 132 = .ok (.if_icmp .eq 9, 3) := by decide +kernel
theorem dX11_whyNot_135 : decode cX11_whyNot 135 = .ok (.sipush 200, 3) := by decide +kernel
theorem dX11_whyNot_138 : decode cX11_whyNot 138 = .ok (.iload_n 3, 1) := by decide +kernel
theorem dX11_whyNot_139 : decode cX11_whyNot 139 = .ok (.iadd, 1) := by decide +kernel
theorem dX11_whyNot_140 : decode cX11_whyNot 140 = .ok (.ireturn, 1) := by decide +kernel
theorem dX11_whyNot_141 : decode cX11_whyNot 141 = .ok (.iinc 3 1, 3) := by decide +kernel
theorem dX11_whyNot_144 : decode cX11_whyNot 144 = .ok (.goto (-103), 3) := by decide +kernel
theorem dX11_whyNot_147 : decode cX11_whyNot 147 = .ok (.iload_n 1, 1) := by decide +kernel
theorem dX11_whyNot_148 : decode cX11_whyNot 148 = .ok (.aload_n 0, 1) := by decide +kernel
theorem dX11_whyNot_149 : decode cX11_whyNot 149 = .ok (.getfield 7, 3) := by decide +kernel
theorem dX11_whyNot_152 : decode cX11_whyNot 152 = .ok (.if_icmp .gt 15, 3) := by decide +kernel
theorem dX11_whyNot_155 : decode cX11_whyNot 155 = .ok (.aload_n 0, 1) := by decide +kernel
theorem dX11_whyNot_156 : decode cX11_whyNot 156 = .ok (.getfield 7, 3) := by decide +kernel
theorem dX11_whyNot_159 : decode cX11_whyNot 159 = .ok (.iload_n 2, 1) := by decide +kernel
theorem dX11_whyNot_160 : decode cX11_whyNot 160 = .ok (.iadd, 1) := by decide +kernel
theorem dX11_whyNot_161 : decode cX11_whyNot 161 = .ok (.sipush 400, 3) := by decide +kernel
theorem dX11_whyNot_164 : decode cX11_whyNot 164 = .ok (.if_icmp .gt 7, 3) := by decide +kernel
theorem dX11_whyNot_167 : decode cX11_whyNot 167 = .ok (.iconst 1, 1) := by decide +kernel
theorem dX11_whyNot_168 : decode cX11_whyNot 168 = .ok (.goto 4, 3) := by decide +kernel
theorem dX11_whyNot_171 : decode cX11_whyNot 171 = .ok (.iconst 0, 1) := by decide +kernel
theorem dX11_whyNot_172 : decode cX11_whyNot 172 = .ok (.istore_n 3, 1) := by decide +kernel
theorem dX11_whyNot_173 : decode cX11_whyNot 173 = .ok (.iconst 0, 1) := by decide +kernel
theorem dX11_whyNot_174 : decode cX11_whyNot 174 = .ok (.istore 4, 2) := by decide +kernel
theorem dX11_whyNot_176 : decode cX11_whyNot 176 = .ok (.iload 4, 2) := by decide +kernel
theorem dX11_whyNot_178 : decode cX11_whyNot 178 = .ok (.aload_n 0, 1) := by decide +kernel
theorem dX11_whyNot_179 : decode cX11_whyNot 179 = .ok (.getfield 135, 3) := by decide +kernel
theorem dX11_whyNot_182 : decode cX11_whyNot 182 = .ok (.if_icmp .ge 56, 3) := by decide +kernel
theorem dX11_whyNot_185 : decode cX11_whyNot 185 = .ok (.aload_n 0, 1) := by decide +kernel
theorem dX11_whyNot_186 : decode cX11_whyNot 186 = .ok (.iload 4, 2) := by decide +kernel
theorem dX11_whyNot_188 : decode cX11_whyNot 188 = .ok (.iconst 0, 1) := by decide +kernel
theorem dX11_whyNot_189 : decode cX11_whyNot 189 = .ok (.iload_n 1, 1) := by decide +kernel
theorem dX11_whyNot_190 : decode cX11_whyNot 190 = .ok (.iload_n 2, 1) := by decide +kernel
theorem dX11_whyNot_191 : decode cX11_whyNot 191 = .ok (.invokevirtual 157, 3) := by decide +kernel
theorem dX11_whyNot_194 : decode cX11_whyNot 194 = .ok (.istore 5, 2) := by decide +kernel
theorem dX11_whyNot_196 : decode cX11_whyNot 196 = .ok (.iload_n 3, 1) := by decide +kernel
theorem dX11_whyNot_197 : decode cX11_whyNot 197 = .ok (.ifCond .eq 33, 3) := by decide +kernel
theorem dX11_whyNot_200 : decode cX11_whyNot 200 = .ok (.iload 5, 2) := by decide +kernel
theorem dX11_whyNot_202 : decode cX11_whyNot 202 = .ok (.sipush 400, 3) := by decide +kernel
theorem dX11_whyNot_205 : decode cX11_whyNot 205 = .ok (.if_icmp .gt 25, 3) := by decide +kernel
theorem dX11_whyNot_208 : decode cX11_whyNot 208 = .ok (.aload_n 0, 1) := by decide +kernel
theorem dX11_whyNot_209 : decode cX11_whyNot 209 = .ok (.iload 4, 2) := by decide +kernel
theorem dX11_whyNot_211 : decode cX11_whyNot 211 = .ok (.iconst 1, 1) := by decide +kernel
theorem dX11_whyNot_212 : decode cX11_whyNot 212 = .ok (.iload_n 1, 1) := by decide +kernel
theorem dX11_whyNot_213 : decode cX11_whyNot 213 = .ok (.iload_n 2, 1) := by decide +kernel
theorem dX11_whyNot_214 : decode cX11_whyNot 214 = .ok (.invokevirtual 157, 3) := by decide +kernel
theorem dX11_whyNot_217 : decode cX11_whyNot 217 = .ok (.iload 5, 2) := by decide +kernel
theorem dX11_whyNot_219 : decode cX11_whyNot 219 = .ok (.isub, 1) := by decide +kernel
theorem dX11_whyNot_220 : decode cX11_whyNot 220 = .ok (.sipush 200, 3) := by decide +kernel
theorem dX11_whyNot_223 : decode cX11_whyNot 223 = .ok (.if_icmp .gt 7, 3) := by decide +kernel
theorem dX11_whyNot_226 : decode cX11_whyNot 226 = .ok (.iconst 1, 1) := by decide +kernel
theorem dX11_whyNot_227 : decode cX11_whyNot 227 = .ok (.goto 4, 3) := by decide +kernel
theorem dX11_whyNot_230 : decode cX11_whyNot 230 = .ok (.iconst 0, 1) := by decide +kernel
theorem dX11_whyNot_231 : decode cX11_whyNot 231 = .ok (.istore_n 3, 1) := by decide +kernel
theorem dX11_whyNot_232 : decode cX11_whyNot 232 = .ok (.iinc 4 1, 3) := by decide +kernel
theorem dX11_whyNot_235 : decode cX11_whyNot 235 = .ok (.goto (-59), 3) := by decide +kernel
theorem dX11_whyNot_238 : decode cX11_whyNot 238 = .ok (.iload_n 3, 1) := by decide +kernel
theorem dX11_whyNot_239 : decode cX11_whyNot 239 = .ok (.ifCond .eq 7, 3) := by decide +kernel
theorem dX11_whyNot_242 : decode cX11_whyNot 242 = .ok (.iconst 0, 1) := by decide +kernel
theorem dX11_whyNot_243 : decode cX11_whyNot 243 = .ok (.goto 6, 3) := by decide +kernel
theorem dX11_whyNot_246 : decode cX11_whyNot 246 = .ok (.sipush 300, 3) := by decide +kernel
theorem dX11_whyNot_249 : decode cX11_whyNot 249 = .ok (.ireturn, 1) := by decide +kernel
theorem dX11_mayStretch_0 : decode cX11_mayStretch 0 = .ok (.iload_n 0, 1) := by decide +kernel
theorem dX11_mayStretch_1 : decode cX11_mayStretch 1 = .ok (.i2l, 1) := by decide +kernel
theorem dX11_mayStretch_2 : decode cX11_mayStretch 2 = .ok (.lconst 0, 1) := by decide +kernel
theorem dX11_mayStretch_3 : decode cX11_mayStretch 3 = .ok (.ldc2_w 124, 3) := by decide +kernel
theorem dX11_mayStretch_6 : decode cX11_mayStretch 6 = .ok (.invokestatic 126, 3) := by decide +kernel
theorem dX11_mayStretch_9 : decode cX11_mayStretch 9 = .ok (.ifCond .eq 19, 3) := by decide +kernel
theorem dX11_mayStretch_12 : decode cX11_mayStretch 12 = .ok (.iload_n 1, 1) := by decide +kernel
theorem dX11_mayStretch_13 : decode cX11_mayStretch 13 = .ok (.i2l, 1) := by decide +kernel
theorem dX11_mayStretch_14 : decode cX11_mayStretch 14 = .ok (.lconst 1, 1) := by decide +kernel
theorem dX11_mayStretch_15 : decode cX11_mayStretch 15 = .ok (.ldc2_w 161, 3) := by decide +kernel
theorem dX11_mayStretch_18 : decode cX11_mayStretch 18 = .ok (.invokestatic 126, 3) := by decide +kernel
theorem dX11_mayStretch_21 : decode cX11_mayStretch 21 = .ok (.ifCond .eq 7, 3) := by decide +kernel
theorem dX11_mayStretch_24 : decode cX11_mayStretch 24 = .ok (.iconst 1, 1) := by decide +kernel
theorem dX11_mayStretch_25 : decode cX11_mayStretch 25 = .ok (.goto 4, 3) := by decide +kernel
theorem dX11_mayStretch_28 : decode cX11_mayStretch 28 = .ok (.iconst 0, 1) := by decide +kernel
theorem dX11_mayStretch_29 : decode cX11_mayStretch 29 = .ok (.ireturn, 1) := by decide +kernel
theorem dX11_why_0 : decode cX11_why 0 = .ok (.iload_n 1, 1) := by decide +kernel
theorem dX11_why_1 : decode cX11_why 1 = .ok (.iload_n 2, 1) := by decide +kernel
theorem dX11_why_2 : decode cX11_why 2 = .ok (.invokestatic 163, 3) := by decide +kernel
theorem dX11_why_5 : decode cX11_why 5 = .ok (.ifCond .eq 12, 3) := by decide +kernel
theorem dX11_why_8 : decode cX11_why 8 = .ok (.aload_n 0, 1) := by decide +kernel
theorem dX11_why_9 : decode cX11_why 9 = .ok (.iload_n 1, 1) := by decide +kernel
theorem dX11_why_10 : decode cX11_why 10 = .ok (.iload_n 2, 1) := by decide +kernel
theorem dX11_why_11 : decode cX11_why 11 = .ok (.invokevirtual 166, 3) := by decide +kernel
theorem dX11_why_14 : decode cX11_why 14 = .ok (.goto 5, 3) := by decide +kernel
theorem dX11_why_17 : decode cX11_why 17 = .ok (.ldc 130, 2) := by decide +kernel
theorem dX11_why_19 : decode cX11_why 19 = .ok (.ireturn, 1) := by decide +kernel
theorem dX11_stretch_0 : decode cX11_stretch 0 = .ok (.iload_n 1, 1) := by decide +kernel
theorem dX11_stretch_1 : decode cX11_stretch 1 = .ok (.iload_n 2, 1) := by decide +kernel
theorem dX11_stretch_2 : decode cX11_stretch 2 = .ok (.invokestatic 163, 3) := by decide +kernel
theorem dX11_stretch_5 : decode cX11_stretch 5 = .ok (.ifCond .ne 6, 3) := by decide +kernel
theorem dX11_stretch_8 : decode cX11_stretch 8 = .ok (.ldc 130, 2) := by decide +kernel
theorem dX11_stretch_10 : decode cX11_stretch 10 = .ok (.ireturn, 1) := by decide +kernel
theorem dX11_stretch_11 : decode cX11_stretch 11 = .ok (.aload_n 0, 1) := by decide +kernel
theorem dX11_stretch_12 : decode cX11_stretch 12 = .ok (.iload_n 1, 1) := by decide +kernel
theorem dX11_stretch_13 : decode cX11_stretch 13 = .ok (.iload_n 2, 1) := by decide +kernel
theorem dX11_stretch_14 : decode cX11_stretch 14 = .ok (.invokevirtual 166, 3) := by decide +kernel
theorem dX11_stretch_17 : decode cX11_stretch 17 = .ok (.ifCond .eq 6, 3) := by decide +kernel
theorem dX11_stretch_20 : decode cX11_stretch 20 = .ok (.ldc 144, 2) := by decide +kernel
theorem dX11_stretch_22 : decode cX11_stretch 22 = .ok (.ireturn, 1) := by decide +kernel
theorem dX11_stretch_23 : decode cX11_stretch 23 = .ok (.iconst 0, 1) := by decide +kernel
theorem dX11_stretch_24 : decode cX11_stretch 24 = .ok (.istore_n 3, 1) := by decide +kernel
theorem dX11_stretch_25 : decode cX11_stretch 25 = .ok (.iconst 0, 1) := by decide +kernel
theorem dX11_stretch_26 : decode cX11_stretch 26 = .ok (.istore 4, 2) := by decide +kernel
theorem dX11_stretch_28 : decode cX11_stretch 28 = .ok (.iload 4, 2) := by decide +kernel
theorem dX11_stretch_30 : decode cX11_stretch 30 = .ok (.aload_n 0, 1) := by decide +kernel
theorem dX11_stretch_31 : decode cX11_stretch 31 = .ok (.getfield 135, 3) := by decide +kernel
theorem dX11_stretch_34 : decode cX11_stretch 34 = .ok (.if_icmp .ge 75, 3) := by decide +kernel
theorem dX11_stretch_37 : decode cX11_stretch 37 = .ok (.aload_n 0, 1) := by decide +kernel
theorem dX11_stretch_38 : decode cX11_stretch 38 = .ok (.iload 4, 2) := by decide +kernel
theorem dX11_stretch_40 : decode cX11_stretch 40 = .ok (.iconst 0, 1) := by decide +kernel
theorem dX11_stretch_41 : decode cX11_stretch 41 = .ok (.iload_n 1, 1) := by decide +kernel
theorem dX11_stretch_42 : decode cX11_stretch 42 = .ok (.iload_n 2, 1) := by decide +kernel
theorem dX11_stretch_43 : decode cX11_stretch 43 = .ok (.invokevirtual 157, 3) := by decide +kernel
theorem dX11_stretch_46 : decode cX11_stretch 46 = .ok (.istore 5, 2) := by decide +kernel
theorem dX11_stretch_48 : decode cX11_stretch 48 = .ok (.aload_n 0, 1) := by decide +kernel
theorem dX11_stretch_49 : decode cX11_stretch 49 = .ok (.iload 4, 2) := by decide +kernel
theorem dX11_stretch_51 : decode cX11_stretch 51 = .ok (.iconst 1, 1) := by decide +kernel
theorem dX11_stretch_52 : decode cX11_stretch 52 = .ok (.iload_n 1, 1) := by decide +kernel
theorem dX11_stretch_53 : decode cX11_stretch 53 = .ok (.iload_n 2, 1) := by decide +kernel
theorem dX11_stretch_54 : decode cX11_stretch 54 = .ok (.invokevirtual 157, 3) := by decide +kernel
theorem dX11_stretch_57 : decode cX11_stretch 57 = .ok (.istore 6, 2) := by decide +kernel
theorem dX11_stretch_59 : decode cX11_stretch 59 = .ok (.iload_n 3, 1) := by decide +kernel
theorem dX11_stretch_60 : decode cX11_stretch 60 = .ok (.iload 6, 2) := by decide +kernel
theorem dX11_stretch_62 : decode cX11_stretch 62 = .ok (.iload 5, 2) := by decide +kernel
theorem dX11_stretch_64 : decode cX11_stretch 64 = .ok (.isub, 1) := by decide +kernel
theorem dX11_stretch_65 : decode cX11_stretch 65 = .ok (.aload_n 0, 1) := by decide +kernel
theorem dX11_stretch_66 : decode cX11_stretch 66 = .ok (.getfield 17, 3) := by decide +kernel
theorem dX11_stretch_69 : decode cX11_stretch 69 = .ok (.iload 4, 2) := by decide +kernel
theorem dX11_stretch_71 : decode cX11_stretch 71 = .ok (.iaload, 1) := by decide +kernel
theorem dX11_stretch_72 : decode cX11_stretch 72 = .ok (.if_icmp .le 7, 3) := by decide +kernel
theorem dX11_stretch_75 : decode cX11_stretch 75 = .ok (.iconst 1, 1) := by decide +kernel
theorem dX11_stretch_76 : decode cX11_stretch 76 = .ok (.goto 4, 3) := by decide +kernel
theorem dX11_stretch_79 : decode cX11_stretch 79 = .ok (.iconst 0, 1) := by decide +kernel
theorem dX11_stretch_80 : decode cX11_stretch 80 = .ok (.iadd, 1) := by decide +kernel
theorem dX11_stretch_81 : decode cX11_stretch 81 = .ok (.istore_n 3, 1) := by decide +kernel
theorem dX11_stretch_82 : decode cX11_stretch 82 = .ok (.aload_n 0, 1) := by decide +kernel
theorem dX11_stretch_83 : decode cX11_stretch 83 = .ok (.getfield 13, 3) := by decide +kernel
theorem dX11_stretch_86 : decode cX11_stretch 86 = .ok (.iload 4, 2) := by decide +kernel
theorem dX11_stretch_88 : decode cX11_stretch 88 = .ok (.iload 5, 2) := by decide +kernel
theorem dX11_stretch_90 : decode cX11_stretch 90 = .ok (.iastore, 1) := by decide +kernel
theorem dX11_stretch_91 : decode cX11_stretch 91 = .ok (.aload_n 0, 1) := by decide +kernel
theorem dX11_stretch_92 : decode cX11_stretch 92 = .ok (.getfield 17, 3) := by decide +kernel
theorem dX11_stretch_95 : decode cX11_stretch 95 = .ok (.iload 4, 2) := by decide +kernel
theorem dX11_stretch_97 : decode cX11_stretch 97 = .ok (.iload 6, 2) := by decide +kernel
theorem dX11_stretch_99 : decode cX11_stretch 99 = .ok (.iload 5, 2) := by decide +kernel
theorem dX11_stretch_101 : decode cX11_stretch 101 = .ok (.isub, 1) := by decide +kernel
theorem dX11_stretch_102 : decode cX11_stretch 102 = .ok (.iastore, 1) := by decide +kernel
theorem dX11_stretch_103 : decode cX11_stretch 103 = .ok (.iinc 4 1, 3) := by decide +kernel
theorem dX11_stretch_106 : decode cX11_stretch 106 = .ok (.goto (-78), 3) := by decide +kernel
theorem dX11_stretch_109 : decode cX11_stretch 109 = .ok (.aload_n 0, 1) := by decide +kernel
theorem dX11_stretch_110 : decode cX11_stretch 110 = .ok (.dup, 1) := by decide +kernel
theorem dX11_stretch_111 : decode cX11_stretch 111 = .ok (.getfield 7, 3) := by decide +kernel
theorem dX11_stretch_114 : decode cX11_stretch 114 = .ok (.iload_n 1, 1) := by decide +kernel
theorem dX11_stretch_115 : decode cX11_stretch 115 = .ok (.aload_n 0, 1) := by decide +kernel
theorem dX11_stretch_116 : decode cX11_stretch 116 = .ok (.getfield 7, 3) := by decide +kernel
theorem dX11_stretch_119 : decode cX11_stretch 119 = .ok (.if_icmp .gt 7, 3) := by decide +kernel
theorem dX11_stretch_122 : decode cX11_stretch 122 = .ok (.iload_n 2, 1) := by decide +kernel
theorem dX11_stretch_123 : decode cX11_stretch 123 = .ok (.goto 4, 3) := by decide +kernel
theorem dX11_stretch_126 : decode cX11_stretch 126 = .ok (.iconst 0, 1) := by decide +kernel
theorem dX11_stretch_127 : decode cX11_stretch 127 = .ok (.iadd, 1) := by decide +kernel
theorem dX11_stretch_128 : decode cX11_stretch 128 = .ok (.putfield 7, 3) := by decide +kernel
theorem dX11_stretch_131 : decode cX11_stretch 131 = .ok (.iload_n 3, 1) := by decide +kernel
theorem dX11_stretch_132 : decode cX11_stretch 132 = .ok (.ireturn, 1) := by decide +kernel
theorem dX11_under_0 : decode cX11_under 0 = .ok (.aload_n 0, 1) := by decide +kernel
theorem dX11_under_1 : decode cX11_under 1 = .ok (.getfield 39, 3) := by decide +kernel
theorem dX11_under_4 : decode cX11_under 4 = .ok (.iload_n 1, 1) := by decide +kernel
theorem dX11_under_5 : decode cX11_under 5 = .ok (.iaload, 1) := by decide +kernel
theorem dX11_under_6 : decode cX11_under 6 = .ok (.istore_n 2, 1) := by decide +kernel
theorem dX11_under_7 : decode cX11_under 7 = .ok (.iconst 0, 1) := by decide +kernel
theorem dX11_under_8 : decode cX11_under 8 = .ok (.istore_n 3, 1) := by decide +kernel
theorem dX11_under_9 : decode cX11_under 9 = .ok (.iload_n 3, 1) := by decide +kernel
theorem dX11_under_10 : decode cX11_under 10 = .ok (.aload_n 0, 1) := by decide +kernel
theorem dX11_under_11 : decode cX11_under 11 = .ok (.getfield 135, 3) := by decide +kernel
theorem dX11_under_14 : decode cX11_under 14 = .ok (.if_icmp .ge 51, 3) := by decide +kernel
theorem dX11_under_17 : decode cX11_under 17 = .ok (.iconst 0, 1) := by decide +kernel
theorem dX11_under_18 : decode cX11_under 18 = .ok (.istore 4, 2) := by decide +kernel
theorem dX11_under_20 : decode cX11_under 20 = .ok (.iload 4, 2) := by decide +kernel
theorem dX11_under_22 : decode cX11_under 22 = .ok (.aload_n 0, 1) := by decide +kernel
theorem dX11_under_23 : decode cX11_under 23 = .ok (.getfield 135, 3) := by decide +kernel
theorem dX11_under_26 : decode cX11_under 26 = .ok (.if_icmp .ge 33, 3) := by decide +kernel
theorem dX11_under_29 : decode cX11_under 29 = .ok (.iload_n 2, 1) := by decide +kernel
theorem dX11_under_30 : decode cX11_under 30 = .ok (.iload_n 2, 1) := by decide +kernel
theorem dX11_under_31 : decode cX11_under 31 = .ok (.iload 4, 2) := by decide +kernel
theorem dX11_under_33 : decode cX11_under 33 = .ok (.ishr, 1) := by decide +kernel
theorem dX11_under_34 : decode cX11_under 34 = .ok (.iconst 1, 1) := by decide +kernel
theorem dX11_under_35 : decode cX11_under 35 = .ok (.iand, 1) := by decide +kernel
theorem dX11_under_36 : decode cX11_under 36 = .ok (.iconst 1, 1) := by decide +kernel
theorem dX11_under_37 : decode cX11_under 37 = .ok (.if_icmp .ne 13, 3) := by decide +kernel
theorem dX11_under_40 : decode cX11_under 40 = .ok (.aload_n 0, 1) := by decide +kernel
theorem dX11_under_41 : decode cX11_under 41 = .ok (.getfield 39, 3) := by decide +kernel
theorem dX11_under_44 : decode cX11_under 44 = .ok (.iload 4, 2) := by decide +kernel
theorem dX11_under_46 : decode cX11_under 46 = .ok (.iaload, 1) := by decide +kernel
theorem dX11_under_47 : decode cX11_under 47 = .ok (.goto 4, 3) := by decide +kernel
theorem dX11_under_50 : decode cX11_under 50 = .ok (.iconst 0, 1) := by decide +kernel
theorem dX11_under_51 : decode cX11_under 51 = .ok (.ior, 1) := by decide +kernel
theorem dX11_under_52 : decode cX11_under 52 = .ok (.istore_n 2, 1) := by decide +kernel
theorem dX11_under_53 : decode cX11_under 53 = .ok (.iinc 4 1, 3) := by decide +kernel
theorem dX11_under_56 : decode cX11_under 56 = .ok (.goto (-36), 3) := by decide +kernel
theorem dX11_under_59 : decode cX11_under 59 = .ok (.iinc 3 1, 3) := by decide +kernel
theorem dX11_under_62 : decode cX11_under 62 = .ok (.goto (-53), 3) := by decide +kernel
theorem dX11_under_65 : decode cX11_under 65 = .ok (.iload_n 2, 1) := by decide +kernel
theorem dX11_under_66 : decode cX11_under 66 = .ok (.ireturn, 1) := by decide +kernel
theorem dX11_lean_0 : decode cX11_lean 0 = .ok (.aload_n 0, 1) := by decide +kernel
theorem dX11_lean_1 : decode cX11_lean 1 = .ok (.iload_n 1, 1) := by decide +kernel
theorem dX11_lean_2 : decode cX11_lean 2 = .ok (.invokevirtual 139, 3) := by decide +kernel
theorem dX11_lean_5 : decode cX11_lean 5 = .ok (.ifCond .eq 11, 3) := by decide +kernel
theorem dX11_lean_8 : decode cX11_lean 8 = .ok (.aload_n 0, 1) := by decide +kernel
theorem dX11_lean_9 : decode cX11_lean 9 = .ok (.iload_n 2, 1) := by decide +kernel
theorem dX11_lean_10 : decode cX11_lean 10 = .ok (.invokevirtual 139, 3) := by decide +kernel
theorem dX11_lean_13 : decode cX11_lean 13 = .ok (.ifCond .ne 6, 3) := by decide +kernel
theorem dX11_lean_16 : decode cX11_lean 16 = .ok (.ldc 143, 2) := by decide +kernel
theorem dX11_lean_18 : decode cX11_lean 18 = .ok (.ireturn, 1) := by decide +kernel
theorem dX11_lean_19 : decode cX11_lean 19 = .ok (.iload_n 3, 1) := by decide +kernel
theorem dX11_lean_20 : decode cX11_lean 20 = .ok (.ifCond .eq 24, 3) := by decide +kernel
theorem dX11_lean_23 : decode cX11_lean 23 = .ok (.iload_n 1, 1) := by decide +kernel
theorem dX11_lean_24 : decode cX11_lean 24 = .ok (.iload_n 2, 1) := by decide +kernel
theorem dX11_lean_25 : decode cX11_lean 25 = .ok (.if_icmp .eq 16, 3) := by decide +kernel
theorem dX11_lean_28 : decode cX11_lean 28 = .ok (.aload_n 0, 1) := by decide +kernel
theorem dX11_lean_29 : decode cX11_lean 29 = .ok (.iload_n 2, 1) := by decide +kernel
theorem dX11_lean_30 : decode cX11_lean 30 = .ok (.invokevirtual 169, 3) := by decide +kernel
theorem dX11_lean_33 : decode cX11_lean 33 = .ok (.iload_n 1, 1) := by decide +kernel
theorem dX11_lean_34 : decode cX11_lean 34 = .ok (.ishr, 1) := by decide +kernel
theorem dX11_lean_35 : decode cX11_lean 35 = .ok (.iconst 1, 1) := by decide +kernel
theorem dX11_lean_36 : decode cX11_lean 36 = .ok (.iand, 1) := by decide +kernel
theorem dX11_lean_37 : decode cX11_lean 37 = .ok (.iconst 1, 1) := by decide +kernel
theorem dX11_lean_38 : decode cX11_lean 38 = .ok (.if_icmp .ne 6, 3) := by decide +kernel
theorem dX11_lean_41 : decode cX11_lean 41 = .ok (.ldc 144, 2) := by decide +kernel
theorem dX11_lean_43 : decode cX11_lean 43 = .ok (.ireturn, 1) := by decide +kernel
theorem dX11_lean_44 : decode cX11_lean 44 = .ok (.aload_n 0, 1) := by decide +kernel
theorem dX11_lean_45 : decode cX11_lean 45 = .ok (.getfield 39, 3) := by decide +kernel
theorem dX11_lean_48 : decode cX11_lean 48 = .ok (.iload_n 1, 1) := by decide +kernel
theorem dX11_lean_49 : decode cX11_lean 49 = .ok (.iaload, 1) := by decide +kernel
theorem dX11_lean_50 : decode cX11_lean 50 = .ok (.iload_n 2, 1) := by decide +kernel
theorem dX11_lean_51 : decode cX11_lean 51 = .ok (.ishr, 1) := by decide +kernel
theorem dX11_lean_52 : decode cX11_lean 52 = .ok (.iconst 1, 1) := by decide +kernel
theorem dX11_lean_53 : decode cX11_lean 53 = .ok (.iand, 1) := by decide +kernel
theorem dX11_lean_54 : decode cX11_lean 54 = .ok (.istore 4, 2) := by decide +kernel
theorem dX11_lean_56 : decode cX11_lean 56 = .ok (.aload_n 0, 1) := by decide +kernel
theorem dX11_lean_57 : decode cX11_lean 57 = .ok (.getfield 39, 3) := by decide +kernel
theorem dX11_lean_60 : decode cX11_lean 60 = .ok (.iload_n 1, 1) := by decide +kernel
theorem dX11_lean_61 : decode cX11_lean 61 = .ok (.iload_n 3, 1) := by decide +kernel
theorem dX11_lean_62 : decode cX11_lean 62 = .ok (.ifCond .eq 16, 3) := by decide +kernel
theorem dX11_lean_65 : decode cX11_lean 65 = .ok (.aload_n 0, 1) := by decide +kernel
theorem dX11_lean_66 : decode cX11_lean 66 = .ok (.getfield 39, 3) := by decide +kernel
theorem dX11_lean_69 : decode cX11_lean 69 = .ok (.iload_n 1, 1) := by decide +kernel
theorem dX11_lean_70 : decode cX11_lean 70 = .ok (.iaload, 1) := by decide +kernel
theorem dX11_lean_71 : decode cX11_lean 71 = .ok (.iconst 1, 1) := by decide +kernel
theorem dX11_lean_72 : decode cX11_lean 72 = .ok (.iload_n 2, 1) := by decide +kernel
theorem dX11_lean_73 : decode cX11_lean 73 = .ok (.ishl, 1) := by decide +kernel
theorem dX11_lean_74 : decode cX11_lean 74 = .ok (.ior, 1) := by decide +kernel
theorem dX11_lean_75 : decode cX11_lean 75 = .ok (.goto 15, 3) := by decide +kernel
theorem dX11_lean_78 : decode cX11_lean 78 = .ok (.aload_n 0, 1) := by decide +kernel
theorem dX11_lean_79 : decode cX11_lean 79 = .ok (.getfield 39, 3) := by decide +kernel
theorem dX11_lean_82 : decode cX11_lean 82 = .ok (.iload_n 1, 1) := by decide +kernel
theorem dX11_lean_83 : decode cX11_lean 83 = .ok (.iaload, 1) := by decide +kernel
theorem dX11_lean_84 : decode cX11_lean 84 = .ok (.iconst 1, 1) := by decide +kernel
theorem dX11_lean_85 : decode cX11_lean 85 = .ok (.iload_n 2, 1) := by decide +kernel
theorem dX11_lean_86 : decode cX11_lean 86 = .ok (.ishl, 1) := by decide +kernel
theorem dX11_lean_87 : decode cX11_lean 87 = .ok (.iconst (-1), 1) := by decide +kernel
theorem dX11_lean_88 : decode cX11_lean 88 = .ok (.ixor, 1) := by decide +kernel
theorem dX11_lean_89 : decode cX11_lean 89 = .ok (.iand, 1) := by decide +kernel
theorem dX11_lean_90 : decode cX11_lean 90 = .ok (.iastore, 1) := by decide +kernel
theorem dX11_lean_91 : decode cX11_lean 91 = .ok (.iload 4, 2) := by decide +kernel
theorem dX11_lean_93 : decode cX11_lean 93 = .ok (.ireturn, 1) := by decide +kernel
theorem dX11_layOrder_0 : decode cX11_layOrder 0 = .ok (.iconst 0, 1) := by decide +kernel
theorem dX11_layOrder_1 : decode cX11_layOrder 1 = .ok (.istore_n 1, 1) := by decide +kernel
theorem dX11_layOrder_2 : decode cX11_layOrder 2 = .ok (.iconst 0, 1) := by decide +kernel
theorem dX11_layOrder_3 : decode cX11_layOrder 3 = .ok (.istore_n 2, 1) := by decide +kernel
theorem dX11_layOrder_4 : decode cX11_layOrder 4 = .ok (.iload_n 2, 1) := by decide +kernel
theorem dX11_layOrder_5 : decode cX11_layOrder 5 = .ok (.aload_n 0, 1) := by decide +kernel
theorem dX11_layOrder_6 : decode cX11_layOrder 6 = .ok (.getfield 135, 3) := by decide +kernel
theorem dX11_layOrder_9 : decode cX11_layOrder 9 = .ok (.if_icmp .ge 52, 3) := by decide +kernel
theorem dX11_layOrder_12 : decode cX11_layOrder 12 = .ok (.iconst 0, 1) := by decide +kernel
theorem dX11_layOrder_13 : decode cX11_layOrder 13 = .ok (.istore_n 3, 1) := by decide +kernel
theorem dX11_layOrder_14 : decode cX11_layOrder 14 = .ok (.iload_n 1, 1) := by decide +kernel
theorem dX11_layOrder_15 : decode cX11_layOrder 15 = .ok (.iload_n 3, 1) := by decide +kernel
theorem dX11_layOrder_16 : decode cX11_layOrder 16 = .ok (.ishr, 1) := by decide +kernel
theorem dX11_layOrder_17 : decode cX11_layOrder 17 = .ok (.iconst 1, 1) := by decide +kernel
theorem dX11_layOrder_18 : decode cX11_layOrder 18 = .ok (.iand, 1) := by decide +kernel
theorem dX11_layOrder_19 : decode cX11_layOrder 19 = .ok (.iconst 1, 1) := by decide +kernel
theorem dX11_layOrder_20 : decode cX11_layOrder 20 = .ok (.if_icmp .eq 16, 3) := by decide +kernel
theorem dX11_layOrder_23 : decode cX11_layOrder 23 = .ok (.aload_n 0, 1) := by decide +kernel
theorem dX11_layOrder_24 : decode cX11_layOrder 24 = .ok (.getfield 39, 3) := by decide +kernel
theorem dX11_layOrder_27 : decode cX11_layOrder 27 = .ok (.iload_n 3, 1) := by decide +kernel
theorem dX11_layOrder_28 : decode cX11_layOrder 28 = .ok (.iaload, 1) := by decide +kernel
theorem dX11_layOrder_29 : decode cX11_layOrder 29 = .ok (.iload_n 1, 1) := by decide +kernel
theorem dX11_layOrder_30 : decode cX11_layOrder 30 = .ok (.iconst (-1), 1) := by decide +kernel
theorem dX11_layOrder_31 : decode cX11_layOrder 31 = .ok (.ixor, 1) := by decide +kernel
theorem dX11_layOrder_32 : decode cX11_layOrder 32 = .ok (.iand, 1) := by decide +kernel
theorem dX11_layOrder_33 : decode cX11_layOrder 33 = .ok (.ifCond .eq 9, 3) := by decide +kernel
theorem dX11_layOrder_36 : decode cX11_layOrder 36 = .ok (.iinc 3 1, 3) := by decide +kernel
theorem dX11_layOrder_39 : decode cX11_layOrder 39 = .ok (.goto (-25), 3) := by decide +kernel
theorem dX11_layOrder_42 : decode cX11_layOrder 42 = .ok (.aload_n 0, 1) := by decide +kernel
theorem dX11_layOrder_43 : decode cX11_layOrder 43 = .ok (.getfield 42, 3) := by decide +kernel
theorem dX11_layOrder_46 : decode cX11_layOrder 46 = .ok (.iload_n 2, 1) := by decide +kernel
theorem dX11_layOrder_47 : decode cX11_layOrder 47 = .ok (.iload_n 3, 1) := by decide +kernel
theorem dX11_layOrder_48 : decode cX11_layOrder 48 = .ok (.iastore, 1) := by decide +kernel
theorem dX11_layOrder_49 : decode cX11_layOrder 49 = .ok (.iload_n 1, 1) := by decide +kernel
theorem dX11_layOrder_50 : decode cX11_layOrder 50 = .ok (.iconst 1, 1) := by decide +kernel
theorem dX11_layOrder_51 : decode cX11_layOrder 51 = .ok (.iload_n 3, 1) := by decide +kernel
theorem dX11_layOrder_52 : decode cX11_layOrder 52 = .ok (.ishl, 1) := by decide +kernel
theorem dX11_layOrder_53 : decode cX11_layOrder 53 = .ok (.ior, 1) := by decide +kernel
theorem dX11_layOrder_54 : decode cX11_layOrder 54 = .ok (.istore_n 1, 1) := by decide +kernel
theorem dX11_layOrder_55 : decode cX11_layOrder 55 = .ok (.iinc 2 1, 3) := by decide +kernel
theorem dX11_layOrder_58 : decode cX11_layOrder 58 = .ok (.goto (-54), 3) := by decide +kernel
theorem dX11_layOrder_61 : decode cX11_layOrder 61 = .ok (.return_, 1) := by decide +kernel
theorem dX11_order_0 : decode cX11_order 0 = .ok (.aload_n 0, 1) := by decide +kernel
theorem dX11_order_1 : decode cX11_order 1 = .ok (.invokevirtual 173, 3) := by decide +kernel
theorem dX11_order_4 : decode cX11_order 4 = .ok (.iload_n 1, 1) := by decide +kernel
theorem dX11_order_5 : decode cX11_order 5 = .ok (.i2l, 1) := by decide +kernel
theorem dX11_order_6 : decode cX11_order 6 = .ok (.lconst 0, 1) := by decide +kernel
theorem dX11_order_7 : decode cX11_order 7 = .ok (.aload_n 0, 1) := by decide +kernel
theorem dX11_order_8 : decode cX11_order 8 = .ok (.getfield 135, 3) := by decide +kernel
theorem dX11_order_11 : decode cX11_order 11 = .ok (.iconst 1, 1) := by decide +kernel
theorem dX11_order_12 : decode cX11_order 12 = .ok (.isub, 1) := by decide +kernel
theorem dX11_order_13 : decode cX11_order 13 = .ok (.i2l, 1) := by decide +kernel
theorem dX11_order_14 : decode cX11_order 14 = .ok (.invokestatic 126, 3) := by decide +kernel
theorem dX11_order_17 : decode cX11_order 17 = .ok (.ifCond .eq 12, 3) := by decide +kernel
theorem dX11_order_20 : decode cX11_order 20 = .ok (.aload_n 0, 1) := by decide +kernel
theorem dX11_order_21 : decode cX11_order 21 = .ok (.getfield 42, 3) := by decide +kernel
theorem dX11_order_24 : decode cX11_order 24 = .ok (.iload_n 1, 1) := by decide +kernel
theorem dX11_order_25 : decode cX11_order 25 = .ok (.iaload, 1) := by decide +kernel
theorem dX11_order_26 : decode cX11_order 26 = .ok (.goto 5, 3) := by decide +kernel
theorem dX11_order_29 : decode cX11_order 29 = .ok (.ldc 152, 2) := by decide +kernel
theorem dX11_order_31 : decode cX11_order 31 = .ok (.ireturn, 1) := by decide +kernel
theorem dX11_ones_0 : decode cX11_ones 0 = .ok (.iconst 0, 1) := by decide +kernel
theorem dX11_ones_1 : decode cX11_ones 1 = .ok (.istore_n 1, 1) := by decide +kernel
theorem dX11_ones_2 : decode cX11_ones 2 = .ok (.iconst 0, 1) := by decide +kernel
theorem dX11_ones_3 : decode cX11_ones 3 = .ok (.istore_n 2, 1) := by decide +kernel
theorem dX11_ones_4 : decode cX11_ones 4 = .ok (.iload_n 2, 1) := by decide +kernel
theorem dX11_ones_5 : decode cX11_ones 5 = .ok (.bipush 16, 2) := by decide +kernel
theorem dX11_ones_7 : decode cX11_ones 7 = .ok (.if_icmp .ge 17, 3) := by decide +kernel
theorem dX11_ones_10 : decode cX11_ones 10 = .ok (.iload_n 1, 1) := by decide +kernel
theorem dX11_ones_11 : decode cX11_ones 11 = .ok (.iload_n 0, 1) := by decide +kernel
theorem dX11_ones_12 : decode cX11_ones 12 = .ok (.iload_n 2, 1) := by decide +kernel
theorem dX11_ones_13 : decode cX11_ones 13 = .ok (.ishr, 1) := by decide +kernel
theorem dX11_ones_14 : decode cX11_ones 14 = .ok (.iconst 1, 1) := by decide +kernel
theorem dX11_ones_15 : decode cX11_ones 15 = .ok (.iand, 1) := by decide +kernel
theorem dX11_ones_16 : decode cX11_ones 16 = .ok (.iadd, 1) := by decide +kernel
theorem dX11_ones_17 : decode cX11_ones 17 = .ok (.istore_n 1, 1) := by decide +kernel
theorem dX11_ones_18 : decode cX11_ones 18 = .ok (.iinc 2 1, 3) := by decide +kernel
theorem dX11_ones_21 : decode cX11_ones 21 = .ok (.goto (-17), 3) := by decide +kernel
theorem dX11_ones_24 : decode cX11_ones 24 = .ok (.iload_n 1, 1) := by decide +kernel
theorem dX11_ones_25 : decode cX11_ones 25 = .ok (.ireturn, 1) := by decide +kernel
theorem dX11_below_0 : decode cX11_below 0 = .ok (.aload_n 0, 1) := by decide +kernel
theorem dX11_below_1 : decode cX11_below 1 = .ok (.iload_n 1, 1) := by decide +kernel
theorem dX11_below_2 : decode cX11_below 2 = .ok (.invokevirtual 139, 3) := by decide +kernel
theorem dX11_below_5 : decode cX11_below 5 = .ok (.ifCond .eq 14, 3) := by decide +kernel
theorem dX11_below_8 : decode cX11_below 8 = .ok (.aload_n 0, 1) := by decide +kernel
theorem dX11_below_9 : decode cX11_below 9 = .ok (.iload_n 1, 1) := by decide +kernel
theorem dX11_below_10 : decode cX11_below 10 = .ok (.invokevirtual 169, 3) := by decide +kernel
theorem dX11_below_13 : decode cX11_below 13 = .ok (.invokestatic 176, 3) := by decide +kernel
theorem dX11_below_16 : decode cX11_below 16 = .ok (.goto 5, 3) := by decide +kernel
theorem dX11_below_19 : decode cX11_below 19 = .ok (.ldc 143, 2) := by decide +kernel
theorem dX11_below_21 : decode cX11_below 21 = .ok (.ireturn, 1) := by decide +kernel
theorem dX11_sort_0 : decode cX11_sort 0 = .ok (.iload_n 1, 1) := by decide +kernel
theorem dX11_sort_1 : decode cX11_sort 1 = .ok (.i2l, 1) := by decide +kernel
theorem dX11_sort_2 : decode cX11_sort 2 = .ok (.lconst 0, 1) := by decide +kernel
theorem dX11_sort_3 : decode cX11_sort 3 = .ok (.ldc2_w 179, 3) := by decide +kernel
theorem dX11_sort_6 : decode cX11_sort 6 = .ok (.invokestatic 126, 3) := by decide +kernel
theorem dX11_sort_9 : decode cX11_sort 9 = .ok (.ifCond .ne 6, 3) := by decide +kernel
theorem dX11_sort_12 : decode cX11_sort 12 = .ok (.ldc 143, 2) := by decide +kernel
theorem dX11_sort_14 : decode cX11_sort 14 = .ok (.ireturn, 1) := by decide +kernel
theorem dX11_sort_15 : decode cX11_sort 15 = .ok (.iload_n 2, 1) := by decide +kernel
theorem dX11_sort_16 : decode cX11_sort 16 = .ok (.i2l, 1) := by decide +kernel
theorem dX11_sort_17 : decode cX11_sort 17 = .ok (.lconst 0, 1) := by decide +kernel
theorem dX11_sort_18 : decode cX11_sort 18 = .ok (.ldc2_w 124, 3) := by decide +kernel
theorem dX11_sort_21 : decode cX11_sort 21 = .ok (.invokestatic 126, 3) := by decide +kernel
theorem dX11_sort_24 : decode cX11_sort 24 = .ok (.ifCond .eq 15, 3) := by decide +kernel
theorem dX11_sort_27 : decode cX11_sort 27 = .ok (.iload_n 3, 1) := by decide +kernel
theorem dX11_sort_28 : decode cX11_sort 28 = .ok (.i2l, 1) := by decide +kernel
theorem dX11_sort_29 : decode cX11_sort 29 = .ok (.lconst 0, 1) := by decide +kernel
theorem dX11_sort_30 : decode cX11_sort 30 = .ok (.ldc2_w 181, 3) := by decide +kernel
theorem dX11_sort_33 : decode cX11_sort 33 = .ok (.invokestatic 126, 3) := by decide +kernel
theorem dX11_sort_36 : decode cX11_sort 36 = .ok (.ifCond .ne 6, 3) := by decide +kernel
theorem dX11_sort_39 : decode cX11_sort 39 = .ok (.ldc 130, 2) := by decide +kernel
theorem dX11_sort_41 : decode cX11_sort 41 = .ok (.ireturn, 1) := by decide +kernel
theorem dX11_sort_42 : decode cX11_sort 42 = .ok (.aload_n 0, 1) := by decide +kernel
theorem dX11_sort_43 : decode cX11_sort 43 = .ok (.getfield 45, 3) := by decide +kernel
theorem dX11_sort_46 : decode cX11_sort 46 = .ok (.iload_n 1, 1) := by decide +kernel
theorem dX11_sort_47 : decode cX11_sort 47 = .ok (.iaload, 1) := by decide +kernel
theorem dX11_sort_48 : decode cX11_sort 48 = .ok (.istore 4, 2) := by decide +kernel
theorem dX11_sort_50 : decode cX11_sort 50 = .ok (.aload_n 0, 1) := by decide +kernel
theorem dX11_sort_51 : decode cX11_sort 51 = .ok (.getfield 45, 3) := by decide +kernel
theorem dX11_sort_54 : decode cX11_sort 54 = .ok (.iload_n 1, 1) := by decide +kernel
theorem dX11_sort_55 : decode cX11_sort 55 = .ok (.iload_n 2, 1) := by decide +kernel
theorem dX11_sort_56 : decode cX11_sort 56 = .ok (.iastore, 1) := by decide +kernel
theorem dX11_sort_57 : decode cX11_sort 57 = .ok (.aload_n 0, 1) := by decide +kernel
theorem dX11_sort_58 : decode cX11_sort 58 = .ok (.getfield 48, 3) := by decide +kernel
theorem dX11_sort_61 : decode cX11_sort 61 = .ok (.iload_n 1, 1) := by decide +kernel
theorem dX11_sort_62 : decode cX11_sort 62 = .ok (.iload_n 3, 1) := by decide +kernel
theorem dX11_sort_63 : decode cX11_sort 63 = .ok (.iastore, 1) := by decide +kernel
theorem dX11_sort_64 : decode cX11_sort 64 = .ok (.iload 4, 2) := by decide +kernel
theorem dX11_sort_66 : decode cX11_sort 66 = .ok (.ireturn, 1) := by decide +kernel
theorem dX11_saw_0 : decode cX11_saw 0 = .ok (.iload_n 1, 1) := by decide +kernel
theorem dX11_saw_1 : decode cX11_saw 1 = .ok (.i2l, 1) := by decide +kernel
theorem dX11_saw_2 : decode cX11_saw 2 = .ok (.lconst 0, 1) := by decide +kernel
theorem dX11_saw_3 : decode cX11_saw 3 = .ok (.ldc2_w 133, 3) := by decide +kernel
theorem dX11_saw_6 : decode cX11_saw 6 = .ok (.invokestatic 126, 3) := by decide +kernel
theorem dX11_saw_9 : decode cX11_saw 9 = .ok (.ifCond .ne 6, 3) := by decide +kernel
theorem dX11_saw_12 : decode cX11_saw 12 = .ok (.ldc 130, 2) := by decide +kernel
theorem dX11_saw_14 : decode cX11_saw 14 = .ok (.ireturn, 1) := by decide +kernel
theorem dX11_saw_15 : decode cX11_saw 15 = .ok (.aload_n 0, 1) := by decide +kernel
theorem dX11_saw_16 : decode cX11_saw 16 = .ok (.getfield 51, 3) := by decide +kernel
theorem dX11_saw_19 : decode cX11_saw 19 = .ok (.istore_n 2, 1) := by decide +kernel
theorem dX11_saw_20 : decode cX11_saw 20 = .ok (.aload_n 0, 1) := by decide +kernel
theorem dX11_saw_21 : decode cX11_saw 21 = .ok (.iload_n 1, 1) := by decide +kernel
theorem dX11_saw_22 : decode cX11_saw 22 = .ok (.putfield 51, 3) := by decide +kernel
theorem dX11_saw_25 : decode cX11_saw 25 = .ok (.iload_n 2, 1) := by decide +kernel
theorem dX11_saw_26 : decode cX11_saw 26 = .ok (.ireturn, 1) := by decide +kernel
theorem dX11_needOf_0 : decode cX11_needOf 0 = .ok (.aload_n 0, 1) := by decide +kernel
theorem dX11_needOf_1 : decode cX11_needOf 1 = .ok (.getfield 51, 3) := by decide +kernel
theorem dX11_needOf_4 : decode cX11_needOf 4 = .ok (.ineg, 1) := by decide +kernel
theorem dX11_needOf_5 : decode cX11_needOf 5 = .ok (.istore_n 2, 1) := by decide +kernel
theorem dX11_needOf_6 : decode cX11_needOf 6 = .ok (.iconst 0, 1) := by decide +kernel
theorem dX11_needOf_7 : decode cX11_needOf 7 = .ok (.istore_n 3, 1) := by decide +kernel
theorem dX11_needOf_8 : decode cX11_needOf 8 = .ok (.iload_n 3, 1) := by decide +kernel
theorem dX11_needOf_9 : decode cX11_needOf 9 = .ok (.aload_n 0, 1) := by decide +kernel
theorem dX11_needOf_10 : decode cX11_needOf 10 = .ok (.getfield 135, 3) := by decide +kernel
theorem dX11_needOf_13 : decode cX11_needOf 13 = .ok (.if_icmp .ge 36, 3) := by decide +kernel
theorem dX11_needOf_16 : decode cX11_needOf 16 = .ok (.iload_n 2, 1) := by decide +kernel
theorem dX11_needOf_17 : decode cX11_needOf 17 = .ok (.iload_n 1, 1) := by decide +kernel
theorem dX11_needOf_18 : decode cX11_needOf 18 = .ok (.iload_n 3, 1) := by decide +kernel
theorem dX11_needOf_19 : decode cX11_needOf 19 = .ok (.ishr, 1) := by decide +kernel
theorem dX11_needOf_20 : decode cX11_needOf 20 = .ok (.iconst 1, 1) := by decide +kernel
theorem dX11_needOf_21 : decode cX11_needOf 21 = .ok (.iand, 1) := by decide +kernel
theorem dX11_needOf_22 : decode cX11_needOf 22 = .ok (.iconst 1, 1) := by decide +kernel
theorem dX11_needOf_23 : decode cX11_needOf 23 = .ok (.if_icmp .ne 17, 3) := by decide +kernel
theorem dX11_needOf_26 : decode cX11_needOf 26 = .ok (.aload_n 0, 1) := by decide +kernel
theorem dX11_needOf_27 : decode cX11_needOf 27 = .ok (.getfield 17, 3) := by decide +kernel
theorem dX11_needOf_30 : decode cX11_needOf 30 = .ok (.iload_n 3, 1) := by decide +kernel
theorem dX11_needOf_31 : decode cX11_needOf 31 = .ok (.iaload, 1) := by decide +kernel
theorem dX11_needOf_32 : decode cX11_needOf 32 = .ok (.aload_n 0, 1) := by decide +kernel
theorem dX11_needOf_33 : decode cX11_needOf 33 = .ok (.getfield 51, 3) := by decide +kernel
theorem dX11_needOf_36 : decode cX11_needOf 36 = .ok (.iadd, 1) := by decide +kernel
theorem dX11_needOf_37 : decode cX11_needOf 37 = .ok (.goto 4, 3) := by decide +kernel
theorem dX11_needOf_40 : decode cX11_needOf 40 = .ok (.iconst 0, 1) := by decide +kernel
theorem dX11_needOf_41 : decode cX11_needOf 41 = .ok (.iadd, 1) := by decide +kernel
theorem dX11_needOf_42 : decode cX11_needOf 42 = .ok (.istore_n 2, 1) := by decide +kernel
theorem dX11_needOf_43 : decode cX11_needOf 43 = .ok (.iinc 3 1, 3) := by decide +kernel
theorem dX11_needOf_46 : decode cX11_needOf 46 = .ok (.goto (-38), 3) := by decide +kernel
theorem dX11_needOf_49 : decode cX11_needOf 49 = .ok (.iload_n 2, 1) := by decide +kernel
theorem dX11_needOf_50 : decode cX11_needOf 50 = .ok (.ireturn, 1) := by decide +kernel
theorem dX11_sortFor_0 : decode cX11_sortFor 0 = .ok (.aload_n 0, 1) := by decide +kernel
theorem dX11_sortFor_1 : decode cX11_sortFor 1 = .ok (.iload_n 1, 1) := by decide +kernel
theorem dX11_sortFor_2 : decode cX11_sortFor 2 = .ok (.invokevirtual 183, 3) := by decide +kernel
theorem dX11_sortFor_5 : decode cX11_sortFor 5 = .ok (.istore_n 2, 1) := by decide +kernel
theorem dX11_sortFor_6 : decode cX11_sortFor 6 = .ok (.ldc 152, 2) := by decide +kernel
theorem dX11_sortFor_8 : decode cX11_sortFor 8 = .ok (.istore_n 3, 1) := by decide +kernel
theorem dX11_sortFor_9 : decode cX11_sortFor 9 = .ok (.iconst 0, 1) := by decide +kernel
theorem dX11_sortFor_10 : decode cX11_sortFor 10 = .ok (.istore 4, 2) := by decide +kernel
theorem dX11_sortFor_12 : decode cX11_sortFor 12 = .ok (.iload 4, 2) := by decide +kernel
theorem dX11_sortFor_14 : decode cX11_sortFor 14 = .ok (.iconst 4, 1) := by decide +kernel
theorem dX11_sortFor_15 : decode cX11_sortFor 15 = .ok (.if_icmp .ge 71, 3) := by decide +kernel
theorem dX11_sortFor_18 : decode cX11_sortFor 18 = .ok (.aload_n 0, 1) := by decide +kernel
theorem dX11_sortFor_19 : decode cX11_sortFor 19 = .ok (.getfield 45, 3) := by decide +kernel
theorem dX11_sortFor_22 : decode cX11_sortFor 22 = .ok (.iload 4, 2) := by decide +kernel
theorem dX11_sortFor_24 : decode cX11_sortFor 24 = .ok (.iaload, 1) := by decide +kernel
theorem dX11_sortFor_25 : decode cX11_sortFor 25 = .ok (.ifCond .le 18, 3) := by decide +kernel
theorem dX11_sortFor_28 : decode cX11_sortFor 28 = .ok (.aload_n 0, 1) := by decide +kernel
theorem dX11_sortFor_29 : decode cX11_sortFor 29 = .ok (.getfield 45, 3) := by decide +kernel
theorem dX11_sortFor_32 : decode cX11_sortFor 32 = .ok (.iload 4, 2) := by decide +kernel
theorem dX11_sortFor_34 : decode cX11_sortFor 34 = .ok (.iaload, 1) := by decide +kernel
theorem dX11_sortFor_35 : decode cX11_sortFor 35 = .ok (.iload_n 2, 1) := by decide +kernel
theorem dX11_sortFor_36 : decode cX11_sortFor 36 = .ok (.if_icmp .lt 7, 3) := by decide +kernel
theorem dX11_sortFor_39 : decode cX11_sortFor 39 = .ok (.iconst 1, 1) := by decide +kernel
theorem dX11_sortFor_40 : decode cX11_sortFor 40 = .ok (.goto 4, 3) := by decide +kernel
theorem dX11_sortFor_43 : decode cX11_sortFor 43 = .ok (.iconst 0, 1) := by decide +kernel
theorem dX11_sortFor_44 : decode cX11_sortFor 44 = .ok (.istore 5, 2) := by decide +kernel
theorem dX11_sortFor_46 : decode cX11_sortFor 46 = .ok (.iload 5, 2) := by decide +kernel
theorem dX11_sortFor_48 : decode cX11_sortFor 48 = .ok (.ifCond .eq 30, 3) := by decide +kernel
theorem dX11_sortFor_51 : decode cX11_sortFor 51 = .ok (.iload_n 3, 1) := by decide +kernel
theorem dX11_sortFor_52 : decode cX11_sortFor 52 = .ok (.ldc 152, 2) := by decide +kernel
theorem dX11_sortFor_54 : decode cX11_sortFor 54 = .ok (.if_icmp .eq 19, 3) := by decide +kernel
theorem dX11_sortFor_57 : decode cX11_sortFor 57 = .ok (.aload_n 0, 1) := by decide +kernel
theorem dX11_sortFor_58 : decode cX11_sortFor 58 = .ok (.getfield 48, 3) := by decide +kernel
theorem dX11_sortFor_61 : decode cX11_sortFor 61 = .ok (.iload 4, 2) := by decide +kernel
theorem dX11_sortFor_63 : decode cX11_sortFor 63 = .ok (.iaload, 1) := by decide +kernel
theorem dX11_sortFor_64 : decode cX11_sortFor 64 = .ok (.aload_n 0, 1) := by decide +kernel
theorem dX11_sortFor_65 : decode cX11_sortFor 65 = .ok (.getfield 48, 3) := by decide +kernel
theorem dX11_sortFor_68 : decode cX11_sortFor 68 = .ok (.iload_n 3, 1) := by decide +kernel
theorem dX11_sortFor_69 : decode cX11_sortFor 69 = .ok (.iaload, 1) := by decide +kernel
theorem dX11_sortFor_70 : decode cX11_sortFor 70 = .ok (.if_icmp .ge 8, 3) := by decide +kernel
theorem dX11_sortFor_73 : decode cX11_sortFor 73 = .ok (.iload 4, 2) := by decide +kernel
theorem dX11_sortFor_75 : decode cX11_sortFor 75 = .ok (.goto 4, 3) := by decide +kernel
theorem dX11_sortFor_78 : decode cX11_sortFor 78 = .ok (.iload_n 3, 1) := by decide +kernel
theorem dX11_sortFor_79 : decode cX11_sortFor 79 = .ok (.istore_n 3, 1) := by decide +kernel
theorem dX11_sortFor_80 : decode cX11_sortFor 80 = .ok (.iinc 4 1, 3) := by decide +kernel
theorem dX11_sortFor_83 : decode cX11_sortFor 83 = .ok (.goto (-71), 3) := by decide +kernel
theorem dX11_sortFor_86 : decode cX11_sortFor 86 = .ok (.iload_n 3, 1) := by decide +kernel
theorem dX11_sortFor_87 : decode cX11_sortFor 87 = .ok (.ireturn, 1) := by decide +kernel
theorem dX11_layCosts_0 : decode cX11_layCosts 0 = .ok (.iconst 0, 1) := by decide +kernel
theorem dX11_layCosts_1 : decode cX11_layCosts 1 = .ok (.istore_n 1, 1) := by decide +kernel
theorem dX11_layCosts_2 : decode cX11_layCosts 2 = .ok (.iload_n 1, 1) := by decide +kernel
theorem dX11_layCosts_3 : decode cX11_layCosts 3 = .ok (.iconst 1, 1) := by decide +kernel
theorem dX11_layCosts_4 : decode cX11_layCosts 4 = .ok (.aload_n 0, 1) := by decide +kernel
theorem dX11_layCosts_5 : decode cX11_layCosts 5 = .ok (.getfield 135, 3) := by decide +kernel
theorem dX11_layCosts_8 : decode cX11_layCosts 8 = .ok (.ishl, 1) := by decide +kernel
theorem dX11_layCosts_9 : decode cX11_layCosts 9 = .ok (.if_icmp .ge 52, 3) := by decide +kernel
theorem dX11_layCosts_12 : decode cX11_layCosts 12 = .ok (.iload_n 1, 1) := by decide +kernel
theorem dX11_layCosts_13 : decode cX11_layCosts 13 = .ok (.ifCond .ne 8, 3) := by decide +kernel
theorem dX11_layCosts_16 : decode cX11_layCosts 16 = .ok (.ldc 152, 2) := by decide +kernel
theorem dX11_layCosts_18 : decode cX11_layCosts 18 = .ok (.goto 8, 3) := by decide +kernel
theorem dX11_layCosts_21 : decode cX11_layCosts 21 = .ok (.aload_n 0, 1) := by decide +kernel
theorem dX11_layCosts_22 : decode cX11_layCosts 22 = .ok (.iload_n 1, 1) := by decide +kernel
theorem dX11_layCosts_23 : decode cX11_layCosts 23 = .ok (.invokevirtual 186, 3) := by decide +kernel
theorem dX11_layCosts_26 : decode cX11_layCosts 26 = .ok (.istore_n 2, 1) := by decide +kernel
theorem dX11_layCosts_27 : decode cX11_layCosts 27 = .ok (.aload_n 0, 1) := by decide +kernel
theorem dX11_layCosts_28 : decode cX11_layCosts 28 = .ok (.getfield 54, 3) := by decide +kernel
theorem dX11_layCosts_31 : decode cX11_layCosts 31 = .ok (.iload_n 1, 1) := by decide +kernel
theorem dX11_layCosts_32 : decode cX11_layCosts 32 = .ok (.iload_n 2, 1) := by decide +kernel
theorem dX11_layCosts_33 : decode cX11_layCosts 33 = .ok (.ldc 152, 2) := by decide +kernel
theorem dX11_layCosts_35 : decode cX11_layCosts 35 = .ok (.if_icmp .ne 8, 3) := by decide +kernel
theorem dX11_layCosts_38 : decode cX11_layCosts 38 = .ok (.ldc 189, 2) := by decide +kernel
theorem dX11_layCosts_40 : decode cX11_layCosts 40 = .ok (.goto 14, 3) := by decide +kernel
theorem dX11_layCosts_43 : decode cX11_layCosts 43 = .ok (.bipush 16, 2) := by decide +kernel
theorem dX11_layCosts_45 : decode cX11_layCosts 45 = .ok (.aload_n 0, 1) := by decide +kernel
theorem dX11_layCosts_46 : decode cX11_layCosts 46 = .ok (.getfield 48, 3) := by decide +kernel
theorem dX11_layCosts_49 : decode cX11_layCosts 49 = .ok (.iload_n 2, 1) := by decide +kernel
theorem dX11_layCosts_50 : decode cX11_layCosts 50 = .ok (.iaload, 1) := by decide +kernel
theorem dX11_layCosts_51 : decode cX11_layCosts 51 = .ok (.imul, 1) := by decide +kernel
theorem dX11_layCosts_52 : decode cX11_layCosts 52 = .ok (.iconst 1, 1) := by decide +kernel
theorem dX11_layCosts_53 : decode cX11_layCosts 53 = .ok (.iadd, 1) := by decide +kernel
theorem dX11_layCosts_54 : decode cX11_layCosts 54 = .ok (.iastore, 1) := by decide +kernel
theorem dX11_layCosts_55 : decode cX11_layCosts 55 = .ok (.iinc 1 1, 3) := by decide +kernel
theorem dX11_layCosts_58 : decode cX11_layCosts 58 = .ok (.goto (-56), 3) := by decide +kernel
theorem dX11_layCosts_61 : decode cX11_layCosts 61 = .ok (.aload_n 0, 1) := by decide +kernel
theorem dX11_layCosts_62 : decode cX11_layCosts 62 = .ok (.getfield 57, 3) := by decide +kernel
theorem dX11_layCosts_65 : decode cX11_layCosts 65 = .ok (.iconst 0, 1) := by decide +kernel
theorem dX11_layCosts_66 : decode cX11_layCosts 66 = .ok (.iconst 0, 1) := by decide +kernel
theorem dX11_layCosts_67 : decode cX11_layCosts 67 = .ok (.iastore, 1) := by decide +kernel
theorem dX11_layCosts_68 : decode cX11_layCosts 68 = .ok (.iconst 1, 1) := by decide +kernel
theorem dX11_layCosts_69 : decode cX11_layCosts 69 = .ok (.istore_n 1, 1) := by decide +kernel
theorem dX11_layCosts_70 : decode cX11_layCosts 70 = .ok (.iload_n 1, 1) := by decide +kernel
theorem dX11_layCosts_71 : decode cX11_layCosts 71 = .ok (.iconst 1, 1) := by decide +kernel
theorem dX11_layCosts_72 : decode cX11_layCosts 72 = .ok (.aload_n 0, 1) := by decide +kernel
theorem dX11_layCosts_73 : decode cX11_layCosts 73 = .ok (.getfield 135, 3) := by decide +kernel
theorem dX11_layCosts_76 : decode cX11_layCosts 76 = .ok (.ishl, 1) := by decide +kernel
theorem dX11_layCosts_77 : decode cX11_layCosts 77 = .ok (.if_icmp .ge 99, 3) := by decide +kernel
theorem dX11_layCosts_80 : decode cX11_layCosts 80 = .ok (.iload_n 1, 1) := by decide +kernel
theorem dX11_layCosts_81 : decode cX11_layCosts 81 = .ok (.iload_n 1, 1) := by decide +kernel
theorem dX11_layCosts_82 : decode cX11_layCosts 82 = .ok (.ineg, 1) := by decide +kernel
theorem dX11_layCosts_83 : decode cX11_layCosts 83 = .ok (.iand, 1) := by decide +kernel
theorem dX11_layCosts_84 : decode cX11_layCosts 84 = .ok (.istore_n 2, 1) := by decide +kernel
theorem dX11_layCosts_85 : decode cX11_layCosts 85 = .ok (.iload_n 1, 1) := by decide +kernel
theorem dX11_layCosts_86 : decode cX11_layCosts 86 = .ok (.iload_n 2, 1) := by decide +kernel
theorem dX11_layCosts_87 : decode cX11_layCosts 87 = .ok (.iconst (-1), 1) := by decide +kernel
theorem dX11_layCosts_88 : decode cX11_layCosts 88 = .ok (.ixor, 1) := by decide +kernel
theorem dX11_layCosts_89 : decode cX11_layCosts 89 = .ok (.iand, 1) := by decide +kernel
theorem dX11_layCosts_90 : decode cX11_layCosts 90 = .ok (.istore_n 3, 1) := by decide +kernel
theorem dX11_layCosts_91 : decode cX11_layCosts 91 = .ok (.ldc 189, 2) := by decide +kernel
theorem dX11_layCosts_93 : decode cX11_layCosts 93 = .ok (.istore 4, 2) := by decide +kernel
theorem dX11_layCosts_95 : decode cX11_layCosts 95 = .ok (.iload_n 3, 1) := by decide +kernel
theorem dX11_layCosts_96 : decode cX11_layCosts 96 = .ok (.istore 5, 2) := by decide +kernel
theorem dX11_layCosts_98 : decode cX11_layCosts 98 = .ok (.iload 5, 2) := by decide +kernel
theorem dX11_layCosts_100 : decode cX11_layCosts 100 = .ok (.ifCond .lt 62, 3) := by decide +kernel
theorem dX11_layCosts_103 : decode cX11_layCosts 103 = .ok (.aload_n 0, 1) := by decide +kernel
theorem dX11_layCosts_104 : decode cX11_layCosts 104 = .ok (.getfield 54, 3) := by decide +kernel
theorem dX11_layCosts_107 : decode cX11_layCosts 107 = .ok (.iload 5, 2) := by decide +kernel
theorem dX11_layCosts_109 : decode cX11_layCosts 109 = .ok (.iload_n 2, 1) := by decide +kernel
theorem dX11_layCosts_110 : decode cX11_layCosts 110 = .ok (.ior, 1) := by decide +kernel
theorem dX11_layCosts_111 : decode cX11_layCosts 111 = .ok (.iaload, 1) := by decide +kernel
theorem dX11_layCosts_112 : decode cX11_layCosts 112 = .ok (.aload_n 0, 1) := by decide +kernel
theorem dX11_layCosts_113 : decode cX11_layCosts 113 = .ok (.getfield 57, 3) := by decide +kernel
theorem dX11_layCosts_116 : decode cX11_layCosts 116 = .ok (.iload_n 3, 1) := by decide +kernel
theorem dX11_layCosts_117 : decode cX11_layCosts 117 = .ok (.iload 5, 2) := by decide +kernel
theorem dX11_layCosts_119 : decode cX11_layCosts 119 = .ok (.iconst (-1), 1) := by decide +kernel
theorem dX11_layCosts_120 : decode cX11_layCosts 120 = .ok (.ixor, 1) := by decide +kernel
theorem dX11_layCosts_121 : decode cX11_layCosts 121 = .ok (.iand, 1) := by decide +kernel
theorem dX11_layCosts_122 : decode cX11_layCosts 122 = .ok (.iaload, 1) := by decide +kernel
theorem dX11_layCosts_123 : decode cX11_layCosts 123 = .ok (.iadd, 1) := by decide +kernel
theorem dX11_layCosts_124 : decode cX11_layCosts 124 = .ok (.istore 6, 2) := by decide +kernel
theorem dX11_layCosts_126 : decode cX11_layCosts 126 = .ok (.iload 6, 2) := by decide +kernel
theorem dX11_layCosts_128 : decode cX11_layCosts 128 = .ok (.iload 4, 2) := by decide +kernel
theorem dX11_layCosts_130 : decode cX11_layCosts 130 = .ok (.if_icmp .ge 8, 3) := by decide +kernel
theorem dX11_layCosts_133 : decode cX11_layCosts 133 = .ok (.iload 6, 2) := by decide +kernel
theorem dX11_layCosts_135 : decode cX11_layCosts 135 = .ok (.goto 5, 3) := by decide +kernel
theorem dX11_layCosts_138 : decode cX11_layCosts 138 = .ok (.iload 4, 2) := by decide +kernel
theorem dX11_layCosts_140 : decode cX11_layCosts 140 = .ok (.istore 4, 2) := by decide +kernel
theorem dX11_layCosts_142 : decode cX11_layCosts 142 = .ok (.iload 5, 2) := by decide +kernel
theorem dX11_layCosts_144 : decode cX11_layCosts 144 = .ok (.ifCond .ne 7, 3) := by decide +kernel
theorem dX11_layCosts_147 : decode cX11_layCosts 147 = .ok (.iconst (-1), 1) := by decide +kernel
theorem dX11_layCosts_148 : decode cX11_layCosts 148 = .ok (.goto 9, 3) := by decide +kernel
theorem dX11_layCosts_151 : decode cX11_layCosts 151 = .ok (.iload 5, 2) := by decide +kernel
theorem dX11_layCosts_153 : decode cX11_layCosts 153 = .ok (.iconst 1, 1) := by decide +kernel
theorem dX11_layCosts_154 : decode cX11_layCosts 154 = .ok (.isub, 1) := by decide +kernel
theorem dX11_layCosts_155 : decode cX11_layCosts 155 = .ok (.iload_n 3, 1) := by decide +kernel
theorem dX11_layCosts_156 : decode cX11_layCosts 156 = .ok (.iand, 1) := by decide +kernel
theorem dX11_layCosts_157 : decode cX11_layCosts 157 = .ok (.istore 5, 2) := by decide +kernel
theorem dX11_layCosts_159 : decode cX11_layCosts 159 = .ok (.goto (-61), 3) := by decide +kernel
theorem dX11_layCosts_162 : decode cX11_layCosts 162 = .ok (.aload_n 0, 1) := by decide +kernel
theorem dX11_layCosts_163 : decode cX11_layCosts 163 = .ok (.getfield 57, 3) := by decide +kernel
theorem dX11_layCosts_166 : decode cX11_layCosts 166 = .ok (.iload_n 1, 1) := by decide +kernel
theorem dX11_layCosts_167 : decode cX11_layCosts 167 = .ok (.iload 4, 2) := by decide +kernel
theorem dX11_layCosts_169 : decode cX11_layCosts 169 = .ok (.iastore, 1) := by decide +kernel
theorem dX11_layCosts_170 : decode cX11_layCosts 170 = .ok (.iinc 1 1, 3) := by decide +kernel
theorem dX11_layCosts_173 : decode cX11_layCosts 173 = .ok (.goto (-103), 3) := by decide +kernel
theorem dX11_layCosts_176 : decode cX11_layCosts 176 = .ok (.return_, 1) := by decide +kernel
theorem dX11_completion_0 : decode cX11_completion 0 = .ok (.iload_n 1, 1) := by decide +kernel
theorem dX11_completion_1 : decode cX11_completion 1 = .ok (.istore_n 2, 1) := by decide +kernel
theorem dX11_completion_2 : decode cX11_completion 2 = .ok (.iload_n 2, 1) := by decide +kernel
theorem dX11_completion_3 : decode cX11_completion 3 = .ok (.ifCond .lt 32, 3) := by decide +kernel
theorem dX11_completion_6 : decode cX11_completion 6 = .ok (.aload_n 0, 1) := by decide +kernel
theorem dX11_completion_7 : decode cX11_completion 7 = .ok (.getfield 60, 3) := by decide +kernel
theorem dX11_completion_10 : decode cX11_completion 10 = .ok (.iload_n 2, 1) := by decide +kernel
theorem dX11_completion_11 : decode cX11_completion 11 = .ok (.aload_n 0, 1) := by decide +kernel
theorem dX11_completion_12 : decode cX11_completion 12 = .ok (.getfield 57, 3) := by decide +kernel
theorem dX11_completion_15 : decode cX11_completion 15 = .ok (.iload_n 2, 1) := by decide +kernel
theorem dX11_completion_16 : decode cX11_completion 16 = .ok (.iaload, 1) := by decide +kernel
theorem dX11_completion_17 : decode cX11_completion 17 = .ok (.iastore, 1) := by decide +kernel
theorem dX11_completion_18 : decode cX11_completion 18 = .ok (.iload_n 2, 1) := by decide +kernel
theorem dX11_completion_19 : decode cX11_completion 19 = .ok (.ifCond .ne 7, 3) := by decide +kernel
theorem dX11_completion_22 : decode cX11_completion 22 = .ok (.iconst (-1), 1) := by decide +kernel
theorem dX11_completion_23 : decode cX11_completion 23 = .ok (.goto 8, 3) := by decide +kernel
theorem dX11_completion_26 : decode cX11_completion 26 = .ok (.iload_n 2, 1) := by decide +kernel
theorem dX11_completion_27 : decode cX11_completion 27 = .ok (.iconst 1, 1) := by decide +kernel
theorem dX11_completion_28 : decode cX11_completion 28 = .ok (.isub, 1) := by decide +kernel
theorem dX11_completion_29 : decode cX11_completion 29 = .ok (.iload_n 1, 1) := by decide +kernel
theorem dX11_completion_30 : decode cX11_completion 30 = .ok (.iand, 1) := by decide +kernel
theorem dX11_completion_31 : decode cX11_completion 31 = .ok (.istore_n 2, 1) := by decide +kernel
theorem dX11_completion_32 : decode cX11_completion 32 = .ok (.goto (-30), 3) := by decide +kernel
theorem dX11_completion_35 : decode cX11_completion 35 = .ok (.iconst 0, 1) := by decide +kernel
theorem dX11_completion_36 : decode cX11_completion 36 = .ok (.istore_n 2, 1) := by decide +kernel
theorem dX11_completion_37 : decode cX11_completion 37 = .ok (.iload_n 2, 1) := by decide +kernel
theorem dX11_completion_38 : decode cX11_completion 38 = .ok (.aload_n 0, 1) := by decide +kernel
theorem dX11_completion_39 : decode cX11_completion 39 = .ok (.getfield 190, 3) := by decide +kernel
theorem dX11_completion_42 : decode cX11_completion 42 = .ok (.if_icmp .ge 151, 3) := by decide +kernel
theorem dX11_completion_45 : decode cX11_completion 45 = .ok (.iload_n 1, 1) := by decide +kernel
theorem dX11_completion_46 : decode cX11_completion 46 = .ok (.istore_n 3, 1) := by decide +kernel
theorem dX11_completion_47 : decode cX11_completion 47 = .ok (.iload_n 3, 1) := by decide +kernel
theorem dX11_completion_48 : decode cX11_completion 48 = .ok (.ifCond .lt 104, 3) := by decide +kernel
theorem dX11_completion_51 : decode cX11_completion 51 = .ok (.ldc 189, 2) := by decide +kernel
theorem dX11_completion_53 : decode cX11_completion 53 = .ok (.istore 4, 2) := by decide +kernel
theorem dX11_completion_55 : decode cX11_completion 55 = .ok (.iload_n 3, 1) := by decide +kernel
theorem dX11_completion_56 : decode cX11_completion 56 = .ok (.istore 5, 2) := by decide +kernel
theorem dX11_completion_58 : decode cX11_completion 58 = .ok (.iload 5, 2) := by decide +kernel
theorem dX11_completion_60 : decode cX11_completion 60 = .ok (.ifCond .lt 67, 3) := by decide +kernel
theorem dX11_completion_63 : decode cX11_completion 63 = .ok (.aload_n 0, 1) := by decide +kernel
theorem dX11_completion_64 : decode cX11_completion 64 = .ok (.getfield 54, 3) := by decide +kernel
theorem dX11_completion_67 : decode cX11_completion 67 = .ok (.aload_n 0, 1) := by decide +kernel
theorem dX11_completion_68 : decode cX11_completion 68 = .ok (.getfield 66, 3) := by decide +kernel
theorem dX11_completion_71 : decode cX11_completion 71 = .ok (.iload_n 2, 1) := by decide +kernel
theorem dX11_completion_72 : decode cX11_completion 72 = .ok (.iaload, 1) := by decide +kernel
theorem dX11_completion_73 : decode cX11_completion 73 = .ok (.iload 5, 2) := by decide +kernel
theorem dX11_completion_75 : decode cX11_completion 75 = .ok (.ior, 1) := by decide +kernel
theorem dX11_completion_76 : decode cX11_completion 76 = .ok (.iaload, 1) := by decide +kernel
theorem dX11_completion_77 : decode cX11_completion 77 = .ok (.aload_n 0, 1) := by decide +kernel
theorem dX11_completion_78 : decode cX11_completion 78 = .ok (.getfield 60, 3) := by decide +kernel
theorem dX11_completion_81 : decode cX11_completion 81 = .ok (.iload_n 3, 1) := by decide +kernel
theorem dX11_completion_82 : decode cX11_completion 82 = .ok (.iload 5, 2) := by decide +kernel
theorem dX11_completion_84 : decode cX11_completion 84 = .ok (.iconst (-1), 1) := by decide +kernel
theorem dX11_completion_85 : decode cX11_completion 85 = .ok (.ixor, 1) := by decide +kernel
theorem dX11_completion_86 : decode cX11_completion 86 = .ok (.iand, 1) := by decide +kernel
theorem dX11_completion_87 : decode cX11_completion 87 = .ok (.iaload, 1) := by decide +kernel
theorem dX11_completion_88 : decode cX11_completion 88 = .ok (.iadd, 1) := by decide +kernel
theorem dX11_completion_89 : decode cX11_completion 89 = .ok (.istore 6, 2) := by decide +kernel
theorem dX11_completion_91 : decode cX11_completion 91 = .ok (.iload 6, 2) := by decide +kernel
theorem dX11_completion_93 : decode cX11_completion 93 = .ok (.iload 4, 2) := by decide +kernel
theorem dX11_completion_95 : decode cX11_completion 95 = .ok (.if_icmp .ge 8, 3) := by decide +kernel
theorem dX11_completion_98 : decode cX11_completion 98 = .ok (.iload 6, 2) := by decide +kernel
theorem dX11_completion_100 : decode cX11_completion 100 = .ok (.goto 5, 3) := by decide +kernel
theorem dX11_completion_103 : decode cX11_completion 103 = .ok (.iload 4, 2) := by decide +kernel
theorem dX11_completion_105 : decode cX11_completion 105 = .ok (.istore 4, 2) := by decide +kernel
theorem dX11_completion_107 : decode cX11_completion 107 = .ok (.iload 5, 2) := by decide +kernel
theorem dX11_completion_109 : decode cX11_completion 109 = .ok (.ifCond .ne 7, 3) := by decide +kernel
theorem dX11_completion_112 : decode cX11_completion 112 = .ok (.iconst (-1), 1) := by decide +kernel
theorem dX11_completion_113 : decode cX11_completion 113 = .ok (.goto 9, 3) := by decide +kernel
theorem dX11_completion_116 : decode cX11_completion 116 = .ok (.iload 5, 2) := by decide +kernel
theorem dX11_completion_118 : decode cX11_completion 118 = .ok (.iconst 1, 1) := by decide +kernel
theorem dX11_completion_119 : decode cX11_completion 119 = .ok (.isub, 1) := by decide +kernel
theorem dX11_completion_120 : decode cX11_completion 120 = .ok (.iload_n 3, 1) := by decide +kernel
theorem dX11_completion_121 : decode cX11_completion 121 = .ok (.iand, 1) := by decide +kernel
theorem dX11_completion_122 : decode cX11_completion 122 = .ok (.istore 5, 2) := by decide +kernel
theorem dX11_completion_124 : decode cX11_completion 124 = .ok (.goto (-66), 3) := by decide +kernel
theorem dX11_completion_127 : decode cX11_completion 127 = .ok (.aload_n 0, 1) := by decide +kernel
theorem dX11_completion_128 : decode cX11_completion 128 = .ok (.getfield 63, 3) := by decide +kernel
theorem dX11_completion_131 : decode cX11_completion 131 = .ok (.iload_n 3, 1) := by decide +kernel
theorem dX11_completion_132 : decode cX11_completion 132 = .ok (.iload 4, 2) := by decide +kernel
theorem dX11_completion_134 : decode cX11_completion 134 = .ok (.iastore, 1) := by decide +kernel
theorem dX11_completion_135 : decode cX11_completion 135 = .ok (.iload_n 3, 1) := by decide +kernel
theorem dX11_completion_136 : decode cX11_completion 136 = .ok (.ifCond .ne 7, 3) := by decide +kernel
theorem dX11_completion_139 : decode cX11_completion 139 = .ok (.iconst (-1), 1) := by decide +kernel
theorem dX11_completion_140 : decode cX11_completion 140 = .ok (.goto 8, 3) := by decide +kernel
theorem dX11_completion_143 : decode cX11_completion 143 = .ok (.iload_n 3, 1) := by decide +kernel
theorem dX11_completion_144 : decode cX11_completion 144 = .ok (.iconst 1, 1) := by decide +kernel
theorem dX11_completion_145 : decode cX11_completion 145 = .ok (.isub, 1) := by decide +kernel
theorem dX11_completion_146 : decode cX11_completion 146 = .ok (.iload_n 1, 1) := by decide +kernel
theorem dX11_completion_147 : decode cX11_completion 147 = .ok (.iand, 1) := by decide +kernel
theorem dX11_completion_148 : decode cX11_completion 148 = .ok (.istore_n 3, 1) := by decide +kernel
theorem dX11_completion_149 : decode cX11_completion 149 = .ok (.goto (-102), 3) := by decide +kernel
theorem dX11_completion_152 : decode cX11_completion 152 = .ok (.iload_n 1, 1) := by decide +kernel
theorem dX11_completion_153 : decode cX11_completion 153 = .ok (.istore_n 3, 1) := by decide +kernel
theorem dX11_completion_154 : decode cX11_completion 154 = .ok (.iload_n 3, 1) := by decide +kernel
theorem dX11_completion_155 : decode cX11_completion 155 = .ok (.ifCond .lt 32, 3) := by decide +kernel
theorem dX11_completion_158 : decode cX11_completion 158 = .ok (.aload_n 0, 1) := by decide +kernel
theorem dX11_completion_159 : decode cX11_completion 159 = .ok (.getfield 60, 3) := by decide +kernel
theorem dX11_completion_162 : decode cX11_completion 162 = .ok (.iload_n 3, 1) := by decide +kernel
theorem dX11_completion_163 : decode cX11_completion 163 = .ok (.aload_n 0, 1) := by decide +kernel
theorem dX11_completion_164 : decode cX11_completion 164 = .ok (.getfield 63, 3) := by decide +kernel
theorem dX11_completion_167 : decode cX11_completion 167 = .ok (.iload_n 3, 1) := by decide +kernel
theorem dX11_completion_168 : decode cX11_completion 168 = .ok (.iaload, 1) := by decide +kernel
theorem dX11_completion_169 : decode cX11_completion 169 = .ok (.iastore, 1) := by decide +kernel
theorem dX11_completion_170 : decode cX11_completion 170 = .ok (.iload_n 3, 1) := by decide +kernel
theorem dX11_completion_171 : decode cX11_completion 171 = .ok (.ifCond .ne 7, 3) := by decide +kernel
theorem dX11_completion_174 : decode cX11_completion 174 = .ok (.iconst (-1), 1) := by decide +kernel
theorem dX11_completion_175 : decode cX11_completion 175 = .ok (.goto 8, 3) := by decide +kernel
theorem dX11_completion_178 : decode cX11_completion 178 = .ok (.iload_n 3, 1) := by decide +kernel
theorem dX11_completion_179 : decode cX11_completion 179 = .ok (.iconst 1, 1) := by decide +kernel
theorem dX11_completion_180 : decode cX11_completion 180 = .ok (.isub, 1) := by decide +kernel
theorem dX11_completion_181 : decode cX11_completion 181 = .ok (.iload_n 1, 1) := by decide +kernel
theorem dX11_completion_182 : decode cX11_completion 182 = .ok (.iand, 1) := by decide +kernel
theorem dX11_completion_183 : decode cX11_completion 183 = .ok (.istore_n 3, 1) := by decide +kernel
theorem dX11_completion_184 : decode cX11_completion 184 = .ok (.goto (-30), 3) := by decide +kernel
theorem dX11_completion_187 : decode cX11_completion 187 = .ok (.iinc 2 1, 3) := by decide +kernel
theorem dX11_completion_190 : decode cX11_completion 190 = .ok (.goto (-153), 3) := by decide +kernel
theorem dX11_completion_193 : decode cX11_completion 193 = .ok (.aload_n 0, 1) := by decide +kernel
theorem dX11_completion_194 : decode cX11_completion 194 = .ok (.getfield 60, 3) := by decide +kernel
theorem dX11_completion_197 : decode cX11_completion 197 = .ok (.iload_n 1, 1) := by decide +kernel
theorem dX11_completion_198 : decode cX11_completion 198 = .ok (.iaload, 1) := by decide +kernel
theorem dX11_completion_199 : decode cX11_completion 199 = .ok (.ireturn, 1) := by decide +kernel
theorem dX11_layCut_0 : decode cX11_layCut 0 = .ok (.aload_n 0, 1) := by decide +kernel
theorem dX11_layCut_1 : decode cX11_layCut 1 = .ok (.invokevirtual 193, 3) := by decide +kernel
theorem dX11_layCut_4 : decode cX11_layCut 4 = .ok (.iconst 1, 1) := by decide +kernel
theorem dX11_layCut_5 : decode cX11_layCut 5 = .ok (.aload_n 0, 1) := by decide +kernel
theorem dX11_layCut_6 : decode cX11_layCut 6 = .ok (.getfield 135, 3) := by decide +kernel
theorem dX11_layCut_9 : decode cX11_layCut 9 = .ok (.ishl, 1) := by decide +kernel
theorem dX11_layCut_10 : decode cX11_layCut 10 = .ok (.iconst 1, 1) := by decide +kernel
theorem dX11_layCut_11 : decode cX11_layCut 11 = .ok (.isub, 1) := by decide +kernel
theorem dX11_layCut_12 : decode cX11_layCut 12 = .ok (.istore_n 1, 1) := by decide +kernel
theorem dX11_layCut_13 : decode cX11_layCut 13 = .ok (.aload_n 0, 1) := by decide +kernel
theorem dX11_layCut_14 : decode cX11_layCut 14 = .ok (.getfield 57, 3) := by decide +kernel
theorem dX11_layCut_17 : decode cX11_layCut 17 = .ok (.iload_n 1, 1) := by decide +kernel
theorem dX11_layCut_18 : decode cX11_layCut 18 = .ok (.iaload, 1) := by decide +kernel
theorem dX11_layCut_19 : decode cX11_layCut 19 = .ok (.istore_n 2, 1) := by decide +kernel
theorem dX11_layCut_20 : decode cX11_layCut 20 = .ok (.aload_n 0, 1) := by decide +kernel
theorem dX11_layCut_21 : decode cX11_layCut 21 = .ok (.iconst 0, 1) := by decide +kernel
theorem dX11_layCut_22 : decode cX11_layCut 22 = .ok (.putfield 190, 3) := by decide +kernel
theorem dX11_layCut_25 : decode cX11_layCut 25 = .ok (.iconst 0, 1) := by decide +kernel
theorem dX11_layCut_26 : decode cX11_layCut 26 = .ok (.istore_n 3, 1) := by decide +kernel
theorem dX11_layCut_27 : decode cX11_layCut 27 = .ok (.iload_n 3, 1) := by decide +kernel
theorem dX11_layCut_28 : decode cX11_layCut 28 = .ok (.aload_n 0, 1) := by decide +kernel
theorem dX11_layCut_29 : decode cX11_layCut 29 = .ok (.getfield 135, 3) := by decide +kernel
theorem dX11_layCut_32 : decode cX11_layCut 32 = .ok (.if_icmp .ge 155, 3) := by decide +kernel
theorem dX11_layCut_35 : decode cX11_layCut 35 = .ok (.iload_n 2, 1) := by decide +kernel
theorem dX11_layCut_36 : decode cX11_layCut 36 = .ok (.ldc 189, 2) := by decide +kernel
theorem dX11_layCut_38 : decode cX11_layCut 38 = .ok (.if_icmp .ge 149, 3) := by decide +kernel
theorem dX11_layCut_41 : decode cX11_layCut 41 = .ok (.iload_n 1, 1) := by decide +kernel
theorem dX11_layCut_42 : decode cX11_layCut 42 = .ok (.iconst 2, 1) := by decide +kernel
theorem dX11_layCut_43 : decode cX11_layCut 43 = .ok (.iload_n 3, 1) := by decide +kernel
theorem dX11_layCut_44 : decode cX11_layCut 44 = .ok (.ishl, 1) := by decide +kernel
theorem dX11_layCut_45 : decode cX11_layCut 45 = .ok (.iconst 1, 1) := by decide +kernel
theorem dX11_layCut_46 : decode cX11_layCut 46 = .ok (.isub, 1) := by decide +kernel
theorem dX11_layCut_47 : decode cX11_layCut 47 = .ok (.iconst (-1), 1) := by decide +kernel
theorem dX11_layCut_48 : decode cX11_layCut 48 = .ok (.ixor, 1) := by decide +kernel
theorem dX11_layCut_49 : decode cX11_layCut 49 = .ok (.iand, 1) := by decide +kernel
theorem dX11_layCut_50 : decode cX11_layCut 50 = .ok (.istore 4, 2) := by decide +kernel
theorem dX11_layCut_52 : decode cX11_layCut 52 = .ok (.iconst 0, 1) := by decide +kernel
theorem dX11_layCut_53 : decode cX11_layCut 53 = .ok (.istore 5, 2) := by decide +kernel
theorem dX11_layCut_55 : decode cX11_layCut 55 = .ok (.iconst 0, 1) := by decide +kernel
theorem dX11_layCut_56 : decode cX11_layCut 56 = .ok (.istore 6, 2) := by decide +kernel
theorem dX11_layCut_58 : decode cX11_layCut 58 = .ok (.iload 6, 2) := by decide +kernel
theorem dX11_layCut_60 : decode cX11_layCut 60 = .ok (.ifCond .ne 121, 3) := by decide +kernel
theorem dX11_layCut_63 : decode cX11_layCut 63 = .ok (.aload_n 0, 1) := by decide +kernel
theorem dX11_layCut_64 : decode cX11_layCut 64 = .ok (.getfield 190, 3) := by decide +kernel
theorem dX11_layCut_67 : decode cX11_layCut 67 = .ok (.istore 7, 2) := by decide +kernel
theorem dX11_layCut_69 : decode cX11_layCut 69 = .ok (.iload 5, 2) := by decide +kernel
theorem dX11_layCut_71 : decode cX11_layCut 71 = .ok (.aload_n 0, 1) := by decide +kernel
theorem dX11_layCut_72 : decode cX11_layCut 72 = .ok (.getfield 190, 3) := by decide +kernel
theorem dX11_layCut_75 : decode cX11_layCut 75 = .ok (.if_icmp .ge 13, 3) := by decide +kernel
theorem dX11_layCut_78 : decode cX11_layCut 78 = .ok (.aload_n 0, 1) := by decide +kernel
theorem dX11_layCut_79 : decode cX11_layCut 79 = .ok (.getfield 66, 3) := by decide +kernel
theorem dX11_layCut_82 : decode cX11_layCut 82 = .ok (.iload 5, 2) := by decide +kernel
theorem dX11_layCut_84 : decode cX11_layCut 84 = .ok (.iaload, 1) := by decide +kernel
theorem dX11_layCut_85 : decode cX11_layCut 85 = .ok (.goto 4, 3) := by decide +kernel
theorem dX11_layCut_88 : decode cX11_layCut 88 = .ok (.iconst 0, 1) := by decide +kernel
theorem dX11_layCut_89 : decode cX11_layCut 89 = .ok (.istore 8, 2) := by decide +kernel
theorem dX11_layCut_91 : decode cX11_layCut 91 = .ok (.aload_n 0, 1) := by decide +kernel
theorem dX11_layCut_92 : decode cX11_layCut 92 = .ok (.getfield 66, 3) := by decide +kernel
theorem dX11_layCut_95 : decode cX11_layCut 95 = .ok (.iload 5, 2) := by decide +kernel
theorem dX11_layCut_97 : decode cX11_layCut 97 = .ok (.iload 8, 2) := by decide +kernel
theorem dX11_layCut_99 : decode cX11_layCut 99 = .ok (.iconst 1, 1) := by decide +kernel
theorem dX11_layCut_100 : decode cX11_layCut 100 = .ok (.iload_n 3, 1) := by decide +kernel
theorem dX11_layCut_101 : decode cX11_layCut 101 = .ok (.ishl, 1) := by decide +kernel
theorem dX11_layCut_102 : decode cX11_layCut 102 = .ok (.ior, 1) := by decide +kernel
theorem dX11_layCut_103 : decode cX11_layCut 103 = .ok (.iastore, 1) := by decide +kernel
theorem dX11_layCut_104 : decode cX11_layCut 104 = .ok (.aload_n 0, 1) := by decide +kernel
theorem dX11_layCut_105 : decode cX11_layCut 105 = .ok (.iload 5, 2) := by decide +kernel
theorem dX11_layCut_107 : decode cX11_layCut 107 = .ok (.aload_n 0, 1) := by decide +kernel
theorem dX11_layCut_108 : decode cX11_layCut 108 = .ok (.getfield 190, 3) := by decide +kernel
theorem dX11_layCut_111 : decode cX11_layCut 111 = .ok (.if_icmp .ne 12, 3) := by decide +kernel
theorem dX11_layCut_114 : decode cX11_layCut 114 = .ok (.aload_n 0, 1) := by decide +kernel
theorem dX11_layCut_115 : decode cX11_layCut 115 = .ok (.getfield 190, 3) := by decide +kernel
theorem dX11_layCut_118 : decode cX11_layCut 118 = .ok (.iconst 1, 1) := by decide +kernel
theorem dX11_layCut_119 : decode cX11_layCut 119 = .ok (.iadd, 1) := by decide +kernel
theorem dX11_layCut_120 : decode cX11_layCut 120 = .ok (.goto 7, 3) := by decide +kernel
theorem dX11_layCut_123 : decode cX11_layCut 123 = .ok (.aload_n 0, 1) := by decide +kernel
theorem dX11_layCut_124 : decode cX11_layCut 124 = .ok (.getfield 190, 3) := by decide +kernel
theorem dX11_layCut_127 : decode cX11_layCut 127 = .ok (.putfield 190, 3) := by decide +kernel
theorem dX11_layCut_130 : decode cX11_layCut 130 = .ok (.aload_n 0, 1) := by decide +kernel
theorem dX11_layCut_131 : decode cX11_layCut 131 = .ok (.iload 4, 2) := by decide +kernel
theorem dX11_layCut_133 : decode cX11_layCut 133 = .ok (.invokevirtual 196, 3) := by decide +kernel
theorem dX11_layCut_136 : decode cX11_layCut 136 = .ok (.iload_n 2, 1) := by decide +kernel
theorem dX11_layCut_137 : decode cX11_layCut 137 = .ok (.if_icmp .ne 7, 3) := by decide +kernel
theorem dX11_layCut_140 : decode cX11_layCut 140 = .ok (.iconst 1, 1) := by decide +kernel
theorem dX11_layCut_141 : decode cX11_layCut 141 = .ok (.goto 4, 3) := by decide +kernel
theorem dX11_layCut_144 : decode cX11_layCut 144 = .ok (.iconst 0, 1) := by decide +kernel
theorem dX11_layCut_145 : decode cX11_layCut 145 = .ok (.istore 6, 2) := by decide +kernel
theorem dX11_layCut_147 : decode cX11_layCut 147 = .ok (.aload_n 0, 1) := by decide +kernel
theorem dX11_layCut_148 : decode cX11_layCut 148 = .ok (.getfield 69, 3) := by decide +kernel
theorem dX11_layCut_151 : decode cX11_layCut 151 = .ok (.iload_n 3, 1) := by decide +kernel
theorem dX11_layCut_152 : decode cX11_layCut 152 = .ok (.iload 5, 2) := by decide +kernel
theorem dX11_layCut_154 : decode cX11_layCut 154 = .ok (.iastore, 1) := by decide +kernel
theorem dX11_layCut_155 : decode cX11_layCut 155 = .ok (.iload 6, 2) := by decide +kernel
theorem dX11_layCut_157 : decode cX11_layCut 157 = .ok (.ifCond .ne 21, 3) := by decide +kernel
theorem dX11_layCut_160 : decode cX11_layCut 160 = .ok (.aload_n 0, 1) := by decide +kernel
theorem dX11_layCut_161 : decode cX11_layCut 161 = .ok (.getfield 66, 3) := by decide +kernel
theorem dX11_layCut_164 : decode cX11_layCut 164 = .ok (.iload 5, 2) := by decide +kernel
theorem dX11_layCut_166 : decode cX11_layCut 166 = .ok (.iload 8, 2) := by decide +kernel
theorem dX11_layCut_168 : decode cX11_layCut 168 = .ok (.iastore, 1) := by decide +kernel
theorem dX11_layCut_169 : decode cX11_layCut 169 = .ok (.aload_n 0, 1) := by decide +kernel
theorem dX11_layCut_170 : decode cX11_layCut 170 = .ok (.iload 7, 2) := by decide +kernel
theorem dX11_layCut_172 : decode cX11_layCut 172 = .ok (.putfield 190, 3) := by decide +kernel
theorem dX11_layCut_175 : decode cX11_layCut 175 = .ok (.iinc 5 1, 3) := by decide +kernel
theorem dX11_layCut_178 : decode cX11_layCut 178 = .ok (.goto (-120), 3) := by decide +kernel
theorem dX11_layCut_181 : decode cX11_layCut 181 = .ok (.iinc 3 1, 3) := by decide +kernel
theorem dX11_layCut_184 : decode cX11_layCut 184 = .ok (.goto (-157), 3) := by decide +kernel
theorem dX11_layCut_187 : decode cX11_layCut 187 = .ok (.iload_n 2, 1) := by decide +kernel
theorem dX11_layCut_188 : decode cX11_layCut 188 = .ok (.ldc 189, 2) := by decide +kernel
theorem dX11_layCut_190 : decode cX11_layCut 190 = .ok (.if_icmp .ge 7, 3) := by decide +kernel
theorem dX11_layCut_193 : decode cX11_layCut 193 = .ok (.iconst 1, 1) := by decide +kernel
theorem dX11_layCut_194 : decode cX11_layCut 194 = .ok (.goto 4, 3) := by decide +kernel
theorem dX11_layCut_197 : decode cX11_layCut 197 = .ok (.iconst 0, 1) := by decide +kernel
theorem dX11_layCut_198 : decode cX11_layCut 198 = .ok (.ireturn, 1) := by decide +kernel
theorem dX11_price_0 : decode cX11_price 0 = .ok (.aload_n 0, 1) := by decide +kernel
theorem dX11_price_1 : decode cX11_price 1 = .ok (.invokevirtual 193, 3) := by decide +kernel
theorem dX11_price_4 : decode cX11_price 4 = .ok (.aload_n 0, 1) := by decide +kernel
theorem dX11_price_5 : decode cX11_price 5 = .ok (.getfield 57, 3) := by decide +kernel
theorem dX11_price_8 : decode cX11_price 8 = .ok (.iconst 1, 1) := by decide +kernel
theorem dX11_price_9 : decode cX11_price 9 = .ok (.aload_n 0, 1) := by decide +kernel
theorem dX11_price_10 : decode cX11_price 10 = .ok (.getfield 135, 3) := by decide +kernel
theorem dX11_price_13 : decode cX11_price 13 = .ok (.ishl, 1) := by decide +kernel
theorem dX11_price_14 : decode cX11_price 14 = .ok (.iconst 1, 1) := by decide +kernel
theorem dX11_price_15 : decode cX11_price 15 = .ok (.isub, 1) := by decide +kernel
theorem dX11_price_16 : decode cX11_price 16 = .ok (.iaload, 1) := by decide +kernel
theorem dX11_price_17 : decode cX11_price 17 = .ok (.istore_n 1, 1) := by decide +kernel
theorem dX11_price_18 : decode cX11_price 18 = .ok (.iload_n 1, 1) := by decide +kernel
theorem dX11_price_19 : decode cX11_price 19 = .ok (.ldc 189, 2) := by decide +kernel
theorem dX11_price_21 : decode cX11_price 21 = .ok (.if_icmp .lt 8, 3) := by decide +kernel
theorem dX11_price_24 : decode cX11_price 24 = .ok (.ldc 152, 2) := by decide +kernel
theorem dX11_price_26 : decode cX11_price 26 = .ok (.goto 7, 3) := by decide +kernel
theorem dX11_price_29 : decode cX11_price 29 = .ok (.iload_n 1, 1) := by decide +kernel
theorem dX11_price_30 : decode cX11_price 30 = .ok (.bipush 16, 2) := by decide +kernel
theorem dX11_price_32 : decode cX11_price 32 = .ok (.idiv, 1) := by decide +kernel
theorem dX11_price_33 : decode cX11_price 33 = .ok (.ireturn, 1) := by decide +kernel
theorem dX11_boards_0 : decode cX11_boards 0 = .ok (.aload_n 0, 1) := by decide +kernel
theorem dX11_boards_1 : decode cX11_boards 1 = .ok (.invokevirtual 193, 3) := by decide +kernel
theorem dX11_boards_4 : decode cX11_boards 4 = .ok (.aload_n 0, 1) := by decide +kernel
theorem dX11_boards_5 : decode cX11_boards 5 = .ok (.getfield 57, 3) := by decide +kernel
