/-! decode rows (from claim/NAMES.whole.lean.txt) -/
theorem dX11_boards_8 : decode cX11_boards 8 = .ok (.iconst 1, 1) := by decide +kernel
theorem dX11_boards_9 : decode cX11_boards 9 = .ok (.aload_n 0, 1) := by decide +kernel
theorem dX11_boards_10 : decode cX11_boards 10 = .ok (.getfield 135, 3) := by decide +kernel
theorem dX11_boards_13 : decode cX11_boards 13 = .ok (.ishl, 1) := by decide +kernel
theorem dX11_boards_14 : decode cX11_boards 14 = .ok (.iconst 1, 1) := by decide +kernel
theorem dX11_boards_15 : decode cX11_boards 15 = .ok (.isub, 1) := by decide +kernel
theorem dX11_boards_16 : decode cX11_boards 16 = .ok (.iaload, 1) := by decide +kernel
theorem dX11_boards_17 : decode cX11_boards 17 = .ok (.istore_n 1, 1) := by decide +kernel
theorem dX11_boards_18 : decode cX11_boards 18 = .ok (.iload_n 1, 1) := by decide +kernel
theorem dX11_boards_19 : decode cX11_boards 19 = .ok (.ldc 189, 2) := by decide +kernel
theorem dX11_boards_21 : decode cX11_boards 21 = .ok (.if_icmp .lt 8, 3) := by decide +kernel
theorem dX11_boards_24 : decode cX11_boards 24 = .ok (.ldc 152, 2) := by decide +kernel
theorem dX11_boards_26 : decode cX11_boards 26 = .ok (.goto 7, 3) := by decide +kernel
theorem dX11_boards_29 : decode cX11_boards 29 = .ok (.iload_n 1, 1) := by decide +kernel
theorem dX11_boards_30 : decode cX11_boards 30 = .ok (.bipush 16, 2) := by decide +kernel
theorem dX11_boards_32 : decode cX11_boards 32 = .ok (.irem, 1) := by decide +kernel
theorem dX11_boards_33 : decode cX11_boards 33 = .ok (.ireturn, 1) := by decide +kernel
theorem dX11_board_0 : decode cX11_board 0 = .ok (.aload_n 0, 1) := by decide +kernel
theorem dX11_board_1 : decode cX11_board 1 = .ok (.iload_n 1, 1) := by decide +kernel
theorem dX11_board_2 : decode cX11_board 2 = .ok (.invokevirtual 139, 3) := by decide +kernel
theorem dX11_board_5 : decode cX11_board 5 = .ok (.ifCond .ne 6, 3) := by decide +kernel
theorem dX11_board_8 : decode cX11_board 8 = .ok (.ldc 143, 2) := by decide +kernel
theorem dX11_board_10 : decode cX11_board 10 = .ok (.ireturn, 1) := by decide +kernel
theorem dX11_board_11 : decode cX11_board 11 = .ok (.aload_n 0, 1) := by decide +kernel
theorem dX11_board_12 : decode cX11_board 12 = .ok (.invokevirtual 199, 3) := by decide +kernel
theorem dX11_board_15 : decode cX11_board 15 = .ok (.ifCond .eq 12, 3) := by decide +kernel
theorem dX11_board_18 : decode cX11_board 18 = .ok (.aload_n 0, 1) := by decide +kernel
theorem dX11_board_19 : decode cX11_board 19 = .ok (.getfield 69, 3) := by decide +kernel
theorem dX11_board_22 : decode cX11_board 22 = .ok (.iload_n 1, 1) := by decide +kernel
theorem dX11_board_23 : decode cX11_board 23 = .ok (.iaload, 1) := by decide +kernel
theorem dX11_board_24 : decode cX11_board 24 = .ok (.goto 5, 3) := by decide +kernel
theorem dX11_board_27 : decode cX11_board 27 = .ok (.ldc 152, 2) := by decide +kernel
theorem dX11_board_29 : decode cX11_board 29 = .ok (.ireturn, 1) := by decide +kernel
theorem dX11_leftOf_0 : decode cX11_leftOf 0 = .ok (.aload_n 0, 1) := by decide +kernel
theorem dX11_leftOf_1 : decode cX11_leftOf 1 = .ok (.getfield 45, 3) := by decide +kernel
theorem dX11_leftOf_4 : decode cX11_leftOf 4 = .ok (.aload_n 0, 1) := by decide +kernel
theorem dX11_leftOf_5 : decode cX11_leftOf 5 = .ok (.aload_n 0, 1) := by decide +kernel
theorem dX11_leftOf_6 : decode cX11_leftOf 6 = .ok (.getfield 66, 3) := by decide +kernel
theorem dX11_leftOf_9 : decode cX11_leftOf 9 = .ok (.iload_n 1, 1) := by decide +kernel
theorem dX11_leftOf_10 : decode cX11_leftOf 10 = .ok (.iaload, 1) := by decide +kernel
theorem dX11_leftOf_11 : decode cX11_leftOf 11 = .ok (.invokevirtual 186, 3) := by decide +kernel
theorem dX11_leftOf_14 : decode cX11_leftOf 14 = .ok (.iaload, 1) := by decide +kernel
theorem dX11_leftOf_15 : decode cX11_leftOf 15 = .ok (.aload_n 0, 1) := by decide +kernel
theorem dX11_leftOf_16 : decode cX11_leftOf 16 = .ok (.aload_n 0, 1) := by decide +kernel
theorem dX11_leftOf_17 : decode cX11_leftOf 17 = .ok (.getfield 66, 3) := by decide +kernel
theorem dX11_leftOf_20 : decode cX11_leftOf 20 = .ok (.iload_n 1, 1) := by decide +kernel
theorem dX11_leftOf_21 : decode cX11_leftOf 21 = .ok (.iaload, 1) := by decide +kernel
theorem dX11_leftOf_22 : decode cX11_leftOf 22 = .ok (.invokevirtual 183, 3) := by decide +kernel
theorem dX11_leftOf_25 : decode cX11_leftOf 25 = .ok (.isub, 1) := by decide +kernel
theorem dX11_leftOf_26 : decode cX11_leftOf 26 = .ok (.istore_n 2, 1) := by decide +kernel
theorem dX11_leftOf_27 : decode cX11_leftOf 27 = .ok (.iload_n 2, 1) := by decide +kernel
theorem dX11_leftOf_28 : decode cX11_leftOf 28 = .ok (.aload_n 0, 1) := by decide +kernel
theorem dX11_leftOf_29 : decode cX11_leftOf 29 = .ok (.getfield 51, 3) := by decide +kernel
theorem dX11_leftOf_32 : decode cX11_leftOf 32 = .ok (.if_icmp .le 12, 3) := by decide +kernel
theorem dX11_leftOf_35 : decode cX11_leftOf 35 = .ok (.iload_n 2, 1) := by decide +kernel
theorem dX11_leftOf_36 : decode cX11_leftOf 36 = .ok (.aload_n 0, 1) := by decide +kernel
theorem dX11_leftOf_37 : decode cX11_leftOf 37 = .ok (.getfield 51, 3) := by decide +kernel
theorem dX11_leftOf_40 : decode cX11_leftOf 40 = .ok (.isub, 1) := by decide +kernel
theorem dX11_leftOf_41 : decode cX11_leftOf 41 = .ok (.goto 4, 3) := by decide +kernel
theorem dX11_leftOf_44 : decode cX11_leftOf 44 = .ok (.iconst 0, 1) := by decide +kernel
theorem dX11_leftOf_45 : decode cX11_leftOf 45 = .ok (.ireturn, 1) := by decide +kernel
theorem dX11_ofBoard_0 : decode cX11_ofBoard 0 = .ok (.aload_n 0, 1) := by decide +kernel
theorem dX11_ofBoard_1 : decode cX11_ofBoard 1 = .ok (.invokevirtual 199, 3) := by decide +kernel
theorem dX11_ofBoard_4 : decode cX11_ofBoard 4 = .ok (.ifCond .eq 19, 3) := by decide +kernel
theorem dX11_ofBoard_7 : decode cX11_ofBoard 7 = .ok (.iload_n 1, 1) := by decide +kernel
theorem dX11_ofBoard_8 : decode cX11_ofBoard 8 = .ok (.i2l, 1) := by decide +kernel
theorem dX11_ofBoard_9 : decode cX11_ofBoard 9 = .ok (.lconst 0, 1) := by decide +kernel
theorem dX11_ofBoard_10 : decode cX11_ofBoard 10 = .ok (.aload_n 0, 1) := by decide +kernel
theorem dX11_ofBoard_11 : decode cX11_ofBoard 11 = .ok (.getfield 190, 3) := by decide +kernel
theorem dX11_ofBoard_14 : decode cX11_ofBoard 14 = .ok (.iconst 1, 1) := by decide +kernel
theorem dX11_ofBoard_15 : decode cX11_ofBoard 15 = .ok (.isub, 1) := by decide +kernel
theorem dX11_ofBoard_16 : decode cX11_ofBoard 16 = .ok (.i2l, 1) := by decide +kernel
theorem dX11_ofBoard_17 : decode cX11_ofBoard 17 = .ok (.invokestatic 126, 3) := by decide +kernel
theorem dX11_ofBoard_20 : decode cX11_ofBoard 20 = .ok (.ifCond .ne 6, 3) := by decide +kernel
theorem dX11_ofBoard_23 : decode cX11_ofBoard 23 = .ok (.ldc 143, 2) := by decide +kernel
theorem dX11_ofBoard_25 : decode cX11_ofBoard 25 = .ok (.ireturn, 1) := by decide +kernel
theorem dX11_ofBoard_26 : decode cX11_ofBoard 26 = .ok (.iload_n 2, 1) := by decide +kernel
theorem dX11_ofBoard_27 : decode cX11_ofBoard 27 = .ok (.ifCond .ne 16, 3) := by decide +kernel
theorem dX11_ofBoard_30 : decode cX11_ofBoard 30 = .ok (.aload_n 0, 1) := by decide +kernel
theorem dX11_ofBoard_31 : decode cX11_ofBoard 31 = .ok (.aload_n 0, 1) := by decide +kernel
theorem dX11_ofBoard_32 : decode cX11_ofBoard 32 = .ok (.getfield 66, 3) := by decide +kernel
theorem dX11_ofBoard_35 : decode cX11_ofBoard 35 = .ok (.iload_n 1, 1) := by decide +kernel
theorem dX11_ofBoard_36 : decode cX11_ofBoard 36 = .ok (.iaload, 1) := by decide +kernel
theorem dX11_ofBoard_37 : decode cX11_ofBoard 37 = .ok (.invokevirtual 186, 3) := by decide +kernel
theorem dX11_ofBoard_40 : decode cX11_ofBoard 40 = .ok (.goto 18, 3) := by decide +kernel
theorem dX11_ofBoard_43 : decode cX11_ofBoard 43 = .ok (.iload_n 2, 1) := by decide +kernel
theorem dX11_ofBoard_44 : decode cX11_ofBoard 44 = .ok (.iconst 1, 1) := by decide +kernel
theorem dX11_ofBoard_45 : decode cX11_ofBoard 45 = .ok (.if_icmp .ne 11, 3) := by decide +kernel
theorem dX11_ofBoard_48 : decode cX11_ofBoard 48 = .ok (.aload_n 0, 1) := by decide +kernel
theorem dX11_ofBoard_49 : decode cX11_ofBoard 49 = .ok (.iload_n 1, 1) := by decide +kernel
theorem dX11_ofBoard_50 : decode cX11_ofBoard 50 = .ok (.invokevirtual 203, 3) := by decide +kernel
theorem dX11_ofBoard_53 : decode cX11_ofBoard 53 = .ok (.goto 5, 3) := by decide +kernel
theorem dX11_ofBoard_56 : decode cX11_ofBoard 56 = .ok (.ldc 130, 2) := by decide +kernel
theorem dX11_ofBoard_58 : decode cX11_ofBoard 58 = .ok (.ireturn, 1) := by decide +kernel
theorem dX11_other_0 : decode cX11_other 0 = .ok (.iload_n 1, 1) := by decide +kernel
theorem dX11_other_1 : decode cX11_other 1 = .ok (.i2l, 1) := by decide +kernel
theorem dX11_other_2 : decode cX11_other 2 = .ok (.lconst 1, 1) := by decide +kernel
theorem dX11_other_3 : decode cX11_other 3 = .ok (.ldc2_w 124, 3) := by decide +kernel
theorem dX11_other_6 : decode cX11_other 6 = .ok (.invokestatic 126, 3) := by decide +kernel
theorem dX11_other_9 : decode cX11_other 9 = .ok (.ifCond .ne 6, 3) := by decide +kernel
theorem dX11_other_12 : decode cX11_other 12 = .ok (.ldc 130, 2) := by decide +kernel
theorem dX11_other_14 : decode cX11_other 14 = .ok (.ireturn, 1) := by decide +kernel
theorem dX11_other_15 : decode cX11_other 15 = .ok (.ldc 152, 2) := by decide +kernel
theorem dX11_other_17 : decode cX11_other 17 = .ok (.istore_n 2, 1) := by decide +kernel
theorem dX11_other_18 : decode cX11_other 18 = .ok (.aload_n 0, 1) := by decide +kernel
theorem dX11_other_19 : decode cX11_other 19 = .ok (.invokevirtual 199, 3) := by decide +kernel
theorem dX11_other_22 : decode cX11_other 22 = .ok (.istore_n 3, 1) := by decide +kernel
theorem dX11_other_23 : decode cX11_other 23 = .ok (.iconst 0, 1) := by decide +kernel
theorem dX11_other_24 : decode cX11_other 24 = .ok (.istore 4, 2) := by decide +kernel
theorem dX11_other_26 : decode cX11_other 26 = .ok (.iload 4, 2) := by decide +kernel
theorem dX11_other_28 : decode cX11_other 28 = .ok (.aload_n 0, 1) := by decide +kernel
theorem dX11_other_29 : decode cX11_other 29 = .ok (.getfield 190, 3) := by decide +kernel
theorem dX11_other_32 : decode cX11_other 32 = .ok (.if_icmp .ge 50, 3) := by decide +kernel
theorem dX11_other_35 : decode cX11_other 35 = .ok (.iload_n 3, 1) := by decide +kernel
theorem dX11_other_36 : decode cX11_other 36 = .ok (.ifCond .eq 46, 3) := by decide +kernel
theorem dX11_other_39 : decode cX11_other 39 = .ok (.aload_n 0, 1) := by decide +kernel
theorem dX11_other_40 : decode cX11_other 40 = .ok (.iload 4, 2) := by decide +kernel
theorem dX11_other_42 : decode cX11_other 42 = .ok (.invokevirtual 203, 3) := by decide +kernel
theorem dX11_other_45 : decode cX11_other 45 = .ok (.istore 5, 2) := by decide +kernel
theorem dX11_other_47 : decode cX11_other 47 = .ok (.iload 5, 2) := by decide +kernel
theorem dX11_other_49 : decode cX11_other 49 = .ok (.iload_n 1, 1) := by decide +kernel
theorem dX11_other_50 : decode cX11_other 50 = .ok (.if_icmp .lt 24, 3) := by decide +kernel
theorem dX11_other_53 : decode cX11_other 53 = .ok (.iload_n 2, 1) := by decide +kernel
theorem dX11_other_54 : decode cX11_other 54 = .ok (.ldc 152, 2) := by decide +kernel
theorem dX11_other_56 : decode cX11_other 56 = .ok (.if_icmp .eq 13, 3) := by decide +kernel
theorem dX11_other_59 : decode cX11_other 59 = .ok (.iload 5, 2) := by decide +kernel
theorem dX11_other_61 : decode cX11_other 61 = .ok (.aload_n 0, 1) := by decide +kernel
theorem dX11_other_62 : decode cX11_other 62 = .ok (.iload_n 2, 1) := by decide +kernel
theorem dX11_other_63 : decode cX11_other 63 = .ok (.invokevirtual 203, 3) := by decide +kernel
theorem dX11_other_66 : decode cX11_other 66 = .ok (.if_icmp .ge 8, 3) := by decide +kernel
theorem dX11_other_69 : decode cX11_other 69 = .ok (.iload 4, 2) := by decide +kernel
theorem dX11_other_71 : decode cX11_other 71 = .ok (.goto 4, 3) := by decide +kernel
theorem dX11_other_74 : decode cX11_other 74 = .ok (.iload_n 2, 1) := by decide +kernel
theorem dX11_other_75 : decode cX11_other 75 = .ok (.istore_n 2, 1) := by decide +kernel
theorem dX11_other_76 : decode cX11_other 76 = .ok (.iinc 4 1, 3) := by decide +kernel
theorem dX11_other_79 : decode cX11_other 79 = .ok (.goto (-53), 3) := by decide +kernel
theorem dX11_other_82 : decode cX11_other 82 = .ok (.iload_n 2, 1) := by decide +kernel
theorem dX11_other_83 : decode cX11_other 83 = .ok (.ireturn, 1) := by decide +kernel
theorem dX11_car_0 : decode cX11_car 0 = .ok (.iload_n 1, 1) := by decide +kernel
theorem dX11_car_1 : decode cX11_car 1 = .ok (.i2l, 1) := by decide +kernel
theorem dX11_car_2 : decode cX11_car 2 = .ok (.lconst 0, 1) := by decide +kernel
theorem dX11_car_3 : decode cX11_car 3 = .ok (.lconst 1, 1) := by decide +kernel
theorem dX11_car_4 : decode cX11_car 4 = .ok (.invokestatic 126, 3) := by decide +kernel
theorem dX11_car_7 : decode cX11_car 7 = .ok (.ifCond .ne 6, 3) := by decide +kernel
theorem dX11_car_10 : decode cX11_car 10 = .ok (.ldc 143, 2) := by decide +kernel
theorem dX11_car_12 : decode cX11_car 12 = .ok (.ireturn, 1) := by decide +kernel
theorem dX11_car_13 : decode cX11_car 13 = .ok (.iload_n 2, 1) := by decide +kernel
theorem dX11_car_14 : decode cX11_car 14 = .ok (.i2l, 1) := by decide +kernel
theorem dX11_car_15 : decode cX11_car 15 = .ok (.lconst 1, 1) := by decide +kernel
theorem dX11_car_16 : decode cX11_car 16 = .ok (.ldc2_w 206, 3) := by decide +kernel
theorem dX11_car_19 : decode cX11_car 19 = .ok (.invokestatic 126, 3) := by decide +kernel
theorem dX11_car_22 : decode cX11_car 22 = .ok (.ifCond .ne 6, 3) := by decide +kernel
theorem dX11_car_25 : decode cX11_car 25 = .ok (.ldc 130, 2) := by decide +kernel
theorem dX11_car_27 : decode cX11_car 27 = .ok (.ireturn, 1) := by decide +kernel
theorem dX11_car_28 : decode cX11_car 28 = .ok (.aload_n 0, 1) := by decide +kernel
theorem dX11_car_29 : decode cX11_car 29 = .ok (.getfield 72, 3) := by decide +kernel
theorem dX11_car_32 : decode cX11_car 32 = .ok (.iload_n 1, 1) := by decide +kernel
theorem dX11_car_33 : decode cX11_car 33 = .ok (.iaload, 1) := by decide +kernel
theorem dX11_car_34 : decode cX11_car 34 = .ok (.istore_n 3, 1) := by decide +kernel
theorem dX11_car_35 : decode cX11_car 35 = .ok (.aload_n 0, 1) := by decide +kernel
theorem dX11_car_36 : decode cX11_car 36 = .ok (.getfield 72, 3) := by decide +kernel
theorem dX11_car_39 : decode cX11_car 39 = .ok (.iload_n 1, 1) := by decide +kernel
theorem dX11_car_40 : decode cX11_car 40 = .ok (.iload_n 2, 1) := by decide +kernel
theorem dX11_car_41 : decode cX11_car 41 = .ok (.iastore, 1) := by decide +kernel
theorem dX11_car_42 : decode cX11_car 42 = .ok (.iload_n 3, 1) := by decide +kernel
theorem dX11_car_43 : decode cX11_car 43 = .ok (.ireturn, 1) := by decide +kernel
theorem dX11_turnedBy_0 : decode cX11_turnedBy 0 = .ok (.iconst 0, 1) := by decide +kernel
theorem dX11_turnedBy_1 : decode cX11_turnedBy 1 = .ok (.istore_n 2, 1) := by decide +kernel
theorem dX11_turnedBy_2 : decode cX11_turnedBy 2 = .ok (.iconst 0, 1) := by decide +kernel
theorem dX11_turnedBy_3 : decode cX11_turnedBy 3 = .ok (.istore_n 3, 1) := by decide +kernel
theorem dX11_turnedBy_4 : decode cX11_turnedBy 4 = .ok (.iconst 0, 1) := by decide +kernel
theorem dX11_turnedBy_5 : decode cX11_turnedBy 5 = .ok (.istore 4, 2) := by decide +kernel
theorem dX11_turnedBy_7 : decode cX11_turnedBy 7 = .ok (.iload 4, 2) := by decide +kernel
theorem dX11_turnedBy_9 : decode cX11_turnedBy 9 = .ok (.aload_n 0, 1) := by decide +kernel
theorem dX11_turnedBy_10 : decode cX11_turnedBy 10 = .ok (.getfield 135, 3) := by decide +kernel
theorem dX11_turnedBy_13 : decode cX11_turnedBy 13 = .ok (.if_icmp .ge 56, 3) := by decide +kernel
theorem dX11_turnedBy_16 : decode cX11_turnedBy 16 = .ok (.iload_n 2, 1) := by decide +kernel
theorem dX11_turnedBy_17 : decode cX11_turnedBy 17 = .ok (.iload_n 1, 1) := by decide +kernel
theorem dX11_turnedBy_18 : decode cX11_turnedBy 18 = .ok (.iload 4, 2) := by decide +kernel
theorem dX11_turnedBy_20 : decode cX11_turnedBy 20 = .ok (.ishr, 1) := by decide +kernel
theorem dX11_turnedBy_21 : decode cX11_turnedBy 21 = .ok (.iconst 1, 1) := by decide +kernel
theorem dX11_turnedBy_22 : decode cX11_turnedBy 22 = .ok (.iand, 1) := by decide +kernel
theorem dX11_turnedBy_23 : decode cX11_turnedBy 23 = .ok (.ifCond .ne 13, 3) := by decide +kernel
theorem dX11_turnedBy_26 : decode cX11_turnedBy 26 = .ok (.aload_n 0, 1) := by decide +kernel
theorem dX11_turnedBy_27 : decode cX11_turnedBy 27 = .ok (.getfield 17, 3) := by decide +kernel
theorem dX11_turnedBy_30 : decode cX11_turnedBy 30 = .ok (.iload 4, 2) := by decide +kernel
theorem dX11_turnedBy_32 : decode cX11_turnedBy 32 = .ok (.iaload, 1) := by decide +kernel
theorem dX11_turnedBy_33 : decode cX11_turnedBy 33 = .ok (.goto 4, 3) := by decide +kernel
theorem dX11_turnedBy_36 : decode cX11_turnedBy 36 = .ok (.iconst 0, 1) := by decide +kernel
theorem dX11_turnedBy_37 : decode cX11_turnedBy 37 = .ok (.iadd, 1) := by decide +kernel
theorem dX11_turnedBy_38 : decode cX11_turnedBy 38 = .ok (.istore_n 2, 1) := by decide +kernel
theorem dX11_turnedBy_39 : decode cX11_turnedBy 39 = .ok (.iload_n 3, 1) := by decide +kernel
theorem dX11_turnedBy_40 : decode cX11_turnedBy 40 = .ok (.iload_n 1, 1) := by decide +kernel
theorem dX11_turnedBy_41 : decode cX11_turnedBy 41 = .ok (.iload 4, 2) := by decide +kernel
theorem dX11_turnedBy_43 : decode cX11_turnedBy 43 = .ok (.ishr, 1) := by decide +kernel
theorem dX11_turnedBy_44 : decode cX11_turnedBy 44 = .ok (.iconst 1, 1) := by decide +kernel
theorem dX11_turnedBy_45 : decode cX11_turnedBy 45 = .ok (.iand, 1) := by decide +kernel
theorem dX11_turnedBy_46 : decode cX11_turnedBy 46 = .ok (.iconst 1, 1) := by decide +kernel
theorem dX11_turnedBy_47 : decode cX11_turnedBy 47 = .ok (.if_icmp .ne 13, 3) := by decide +kernel
theorem dX11_turnedBy_50 : decode cX11_turnedBy 50 = .ok (.aload_n 0, 1) := by decide +kernel
theorem dX11_turnedBy_51 : decode cX11_turnedBy 51 = .ok (.getfield 17, 3) := by decide +kernel
theorem dX11_turnedBy_54 : decode cX11_turnedBy 54 = .ok (.iload 4, 2) := by decide +kernel
theorem dX11_turnedBy_56 : decode cX11_turnedBy 56 = .ok (.iaload, 1) := by decide +kernel
theorem dX11_turnedBy_57 : decode cX11_turnedBy 57 = .ok (.goto 4, 3) := by decide +kernel
theorem dX11_turnedBy_60 : decode cX11_turnedBy 60 = .ok (.iconst 0, 1) := by decide +kernel
theorem dX11_turnedBy_61 : decode cX11_turnedBy 61 = .ok (.iadd, 1) := by decide +kernel
theorem dX11_turnedBy_62 : decode cX11_turnedBy 62 = .ok (.istore_n 3, 1) := by decide +kernel
theorem dX11_turnedBy_63 : decode cX11_turnedBy 63 = .ok (.iinc 4 1, 3) := by decide +kernel
theorem dX11_turnedBy_66 : decode cX11_turnedBy 66 = .ok (.goto (-59), 3) := by decide +kernel
theorem dX11_turnedBy_69 : decode cX11_turnedBy 69 = .ok (.iload_n 2, 1) := by decide +kernel
theorem dX11_turnedBy_70 : decode cX11_turnedBy 70 = .ok (.aload_n 0, 1) := by decide +kernel
theorem dX11_turnedBy_71 : decode cX11_turnedBy 71 = .ok (.getfield 72, 3) := by decide +kernel
theorem dX11_turnedBy_74 : decode cX11_turnedBy 74 = .ok (.iconst 0, 1) := by decide +kernel
theorem dX11_turnedBy_75 : decode cX11_turnedBy 75 = .ok (.iaload, 1) := by decide +kernel
theorem dX11_turnedBy_76 : decode cX11_turnedBy 76 = .ok (.if_icmp .gt 13, 3) := by decide +kernel
theorem dX11_turnedBy_79 : decode cX11_turnedBy 79 = .ok (.iload_n 3, 1) := by decide +kernel
theorem dX11_turnedBy_80 : decode cX11_turnedBy 80 = .ok (.aload_n 0, 1) := by decide +kernel
theorem dX11_turnedBy_81 : decode cX11_turnedBy 81 = .ok (.getfield 72, 3) := by decide +kernel
theorem dX11_turnedBy_84 : decode cX11_turnedBy 84 = .ok (.iconst 1, 1) := by decide +kernel
theorem dX11_turnedBy_85 : decode cX11_turnedBy 85 = .ok (.iaload, 1) := by decide +kernel
theorem dX11_turnedBy_86 : decode cX11_turnedBy 86 = .ok (.if_icmp .le 6, 3) := by decide +kernel
theorem dX11_turnedBy_89 : decode cX11_turnedBy 89 = .ok (.ldc 152, 2) := by decide +kernel
theorem dX11_turnedBy_91 : decode cX11_turnedBy 91 = .ok (.ireturn, 1) := by decide +kernel
theorem dX11_turnedBy_92 : decode cX11_turnedBy 92 = .ok (.iconst 0, 1) := by decide +kernel
theorem dX11_turnedBy_93 : decode cX11_turnedBy 93 = .ok (.istore 4, 2) := by decide +kernel
theorem dX11_turnedBy_95 : decode cX11_turnedBy 95 = .ok (.iconst 0, 1) := by decide +kernel
theorem dX11_turnedBy_96 : decode cX11_turnedBy 96 = .ok (.istore 5, 2) := by decide +kernel
theorem dX11_turnedBy_98 : decode cX11_turnedBy 98 = .ok (.iconst 0, 1) := by decide +kernel
theorem dX11_turnedBy_99 : decode cX11_turnedBy 99 = .ok (.istore 6, 2) := by decide +kernel
theorem dX11_turnedBy_101 : decode cX11_turnedBy 101 = .ok (.iload 6, 2) := by decide +kernel
theorem dX11_turnedBy_103 : decode cX11_turnedBy 103 = .ok (.aload_n 0, 1) := by decide +kernel
theorem dX11_turnedBy_104 : decode cX11_turnedBy 104 = .ok (.getfield 135, 3) := by decide +kernel
theorem dX11_turnedBy_107 : decode cX11_turnedBy 107 = .ok (.if_icmp .ge 68, 3) := by decide +kernel
theorem dX11_turnedBy_110 : decode cX11_turnedBy 110 = .ok (.aload_n 0, 1) := by decide +kernel
theorem dX11_turnedBy_111 : decode cX11_turnedBy 111 = .ok (.getfield 42, 3) := by decide +kernel
theorem dX11_turnedBy_114 : decode cX11_turnedBy 114 = .ok (.iload 6, 2) := by decide +kernel
theorem dX11_turnedBy_116 : decode cX11_turnedBy 116 = .ok (.iaload, 1) := by decide +kernel
theorem dX11_turnedBy_117 : decode cX11_turnedBy 117 = .ok (.istore 7, 2) := by decide +kernel
theorem dX11_turnedBy_119 : decode cX11_turnedBy 119 = .ok (.iload_n 1, 1) := by decide +kernel
theorem dX11_turnedBy_120 : decode cX11_turnedBy 120 = .ok (.iload 7, 2) := by decide +kernel
theorem dX11_turnedBy_122 : decode cX11_turnedBy 122 = .ok (.ishr, 1) := by decide +kernel
theorem dX11_turnedBy_123 : decode cX11_turnedBy 123 = .ok (.iconst 1, 1) := by decide +kernel
theorem dX11_turnedBy_124 : decode cX11_turnedBy 124 = .ok (.iand, 1) := by decide +kernel
theorem dX11_turnedBy_125 : decode cX11_turnedBy 125 = .ok (.iconst 1, 1) := by decide +kernel
theorem dX11_turnedBy_126 : decode cX11_turnedBy 126 = .ok (.if_icmp .ne 7, 3) := by decide +kernel
theorem dX11_turnedBy_129 : decode cX11_turnedBy 129 = .ok (.iload_n 1, 1) := by decide +kernel
theorem dX11_turnedBy_130 : decode cX11_turnedBy 130 = .ok (.goto 6, 3) := by decide +kernel
theorem dX11_turnedBy_133 : decode cX11_turnedBy 133 = .ok (.iload_n 1, 1) := by decide +kernel
theorem dX11_turnedBy_134 : decode cX11_turnedBy 134 = .ok (.iconst (-1), 1) := by decide +kernel
theorem dX11_turnedBy_135 : decode cX11_turnedBy 135 = .ok (.ixor, 1) := by decide +kernel
theorem dX11_turnedBy_136 : decode cX11_turnedBy 136 = .ok (.istore 8, 2) := by decide +kernel
theorem dX11_turnedBy_138 : decode cX11_turnedBy 138 = .ok (.iload 4, 2) := by decide +kernel
theorem dX11_turnedBy_140 : decode cX11_turnedBy 140 = .ok (.iload 8, 2) := by decide +kernel
theorem dX11_turnedBy_142 : decode cX11_turnedBy 142 = .ok (.iload 5, 2) := by decide +kernel
theorem dX11_turnedBy_144 : decode cX11_turnedBy 144 = .ok (.iconst (-1), 1) := by decide +kernel
theorem dX11_turnedBy_145 : decode cX11_turnedBy 145 = .ok (.ixor, 1) := by decide +kernel
theorem dX11_turnedBy_146 : decode cX11_turnedBy 146 = .ok (.iand, 1) := by decide +kernel
theorem dX11_turnedBy_147 : decode cX11_turnedBy 147 = .ok (.iconst 1, 1) := by decide +kernel
theorem dX11_turnedBy_148 : decode cX11_turnedBy 148 = .ok (.iload 7, 2) := by decide +kernel
theorem dX11_turnedBy_150 : decode cX11_turnedBy 150 = .ok (.ishl, 1) := by decide +kernel
theorem dX11_turnedBy_151 : decode cX11_turnedBy 151 = .ok (.iconst 1, 1) := by decide +kernel
theorem dX11_turnedBy_152 : decode cX11_turnedBy 152 = .ok (.isub, 1) := by decide +kernel
theorem dX11_turnedBy_153 : decode cX11_turnedBy 153 = .ok (.iand, 1) := by decide +kernel
theorem dX11_turnedBy_154 : decode cX11_turnedBy 154 = .ok (.invokestatic 176, 3) := by decide +kernel
theorem dX11_turnedBy_157 : decode cX11_turnedBy 157 = .ok (.iadd, 1) := by decide +kernel
theorem dX11_turnedBy_158 : decode cX11_turnedBy 158 = .ok (.istore 4, 2) := by decide +kernel
theorem dX11_turnedBy_160 : decode cX11_turnedBy 160 = .ok (.iload 5, 2) := by decide +kernel
theorem dX11_turnedBy_162 : decode cX11_turnedBy 162 = .ok (.iconst 1, 1) := by decide +kernel
theorem dX11_turnedBy_163 : decode cX11_turnedBy 163 = .ok (.iload 7, 2) := by decide +kernel
theorem dX11_turnedBy_165 : decode cX11_turnedBy 165 = .ok (.ishl, 1) := by decide +kernel
theorem dX11_turnedBy_166 : decode cX11_turnedBy 166 = .ok (.ior, 1) := by decide +kernel
theorem dX11_turnedBy_167 : decode cX11_turnedBy 167 = .ok (.istore 5, 2) := by decide +kernel
theorem dX11_turnedBy_169 : decode cX11_turnedBy 169 = .ok (.iinc 6 1, 3) := by decide +kernel
theorem dX11_turnedBy_172 : decode cX11_turnedBy 172 = .ok (.goto (-71), 3) := by decide +kernel
theorem dX11_turnedBy_175 : decode cX11_turnedBy 175 = .ok (.iload 4, 2) := by decide +kernel
theorem dX11_turnedBy_177 : decode cX11_turnedBy 177 = .ok (.ireturn, 1) := by decide +kernel
theorem dX11_isLesser_0 : decode cX11_isLesser 0 = .ok (.iload_n 0, 1) := by decide +kernel
theorem dX11_isLesser_1 : decode cX11_isLesser 1 = .ok (.iload_n 1, 1) := by decide +kernel
theorem dX11_isLesser_2 : decode cX11_isLesser 2 = .ok (.ixor, 1) := by decide +kernel
theorem dX11_isLesser_3 : decode cX11_isLesser 3 = .ok (.istore_n 2, 1) := by decide +kernel
theorem dX11_isLesser_4 : decode cX11_isLesser 4 = .ok (.iload_n 0, 1) := by decide +kernel
theorem dX11_isLesser_5 : decode cX11_isLesser 5 = .ok (.iload_n 2, 1) := by decide +kernel
theorem dX11_isLesser_6 : decode cX11_isLesser 6 = .ok (.iand, 1) := by decide +kernel
theorem dX11_isLesser_7 : decode cX11_isLesser 7 = .ok (.iload_n 2, 1) := by decide +kernel
theorem dX11_isLesser_8 : decode cX11_isLesser 8 = .ok (.ineg, 1) := by decide +kernel
theorem dX11_isLesser_9 : decode cX11_isLesser 9 = .ok (.iand, 1) := by decide +kernel
theorem dX11_isLesser_10 : decode cX11_isLesser 10 = .ok (.ifCond .ne 7, 3) := by decide +kernel
theorem dX11_isLesser_13 : decode cX11_isLesser 13 = .ok (.iconst 1, 1) := by decide +kernel
theorem dX11_isLesser_14 : decode cX11_isLesser 14 = .ok (.goto 4, 3) := by decide +kernel
theorem dX11_isLesser_17 : decode cX11_isLesser 17 = .ok (.iconst 0, 1) := by decide +kernel
theorem dX11_isLesser_18 : decode cX11_isLesser 18 = .ok (.ireturn, 1) := by decide +kernel
theorem dX11_bestCars_0 : decode cX11_bestCars 0 = .ok (.aload_n 0, 1) := by decide +kernel
theorem dX11_bestCars_1 : decode cX11_bestCars 1 = .ok (.invokevirtual 173, 3) := by decide +kernel
theorem dX11_bestCars_4 : decode cX11_bestCars 4 = .ok (.ldc 152, 2) := by decide +kernel
theorem dX11_bestCars_6 : decode cX11_bestCars 6 = .ok (.istore_n 1, 1) := by decide +kernel
theorem dX11_bestCars_7 : decode cX11_bestCars 7 = .ok (.ldc 189, 2) := by decide +kernel
theorem dX11_bestCars_9 : decode cX11_bestCars 9 = .ok (.istore_n 2, 1) := by decide +kernel
theorem dX11_bestCars_10 : decode cX11_bestCars 10 = .ok (.iconst 0, 1) := by decide +kernel
theorem dX11_bestCars_11 : decode cX11_bestCars 11 = .ok (.istore_n 3, 1) := by decide +kernel
theorem dX11_bestCars_12 : decode cX11_bestCars 12 = .ok (.iload_n 3, 1) := by decide +kernel
theorem dX11_bestCars_13 : decode cX11_bestCars 13 = .ok (.iconst 1, 1) := by decide +kernel
theorem dX11_bestCars_14 : decode cX11_bestCars 14 = .ok (.aload_n 0, 1) := by decide +kernel
theorem dX11_bestCars_15 : decode cX11_bestCars 15 = .ok (.getfield 135, 3) := by decide +kernel
theorem dX11_bestCars_18 : decode cX11_bestCars 18 = .ok (.ishl, 1) := by decide +kernel
theorem dX11_bestCars_19 : decode cX11_bestCars 19 = .ok (.if_icmp .ge 53, 3) := by decide +kernel
theorem dX11_bestCars_22 : decode cX11_bestCars 22 = .ok (.aload_n 0, 1) := by decide +kernel
theorem dX11_bestCars_23 : decode cX11_bestCars 23 = .ok (.iload_n 3, 1) := by decide +kernel
theorem dX11_bestCars_24 : decode cX11_bestCars 24 = .ok (.invokevirtual 208, 3) := by decide +kernel
theorem dX11_bestCars_27 : decode cX11_bestCars 27 = .ok (.istore 4, 2) := by decide +kernel
theorem dX11_bestCars_29 : decode cX11_bestCars 29 = .ok (.iload 4, 2) := by decide +kernel
theorem dX11_bestCars_31 : decode cX11_bestCars 31 = .ok (.ldc 152, 2) := by decide +kernel
theorem dX11_bestCars_33 : decode cX11_bestCars 33 = .ok (.if_icmp .eq 33, 3) := by decide +kernel
theorem dX11_bestCars_36 : decode cX11_bestCars 36 = .ok (.iload 4, 2) := by decide +kernel
theorem dX11_bestCars_38 : decode cX11_bestCars 38 = .ok (.iload_n 2, 1) := by decide +kernel
theorem dX11_bestCars_39 : decode cX11_bestCars 39 = .ok (.if_icmp .lt 22, 3) := by decide +kernel
theorem dX11_bestCars_42 : decode cX11_bestCars 42 = .ok (.iload 4, 2) := by decide +kernel
theorem dX11_bestCars_44 : decode cX11_bestCars 44 = .ok (.iload_n 2, 1) := by decide +kernel
theorem dX11_bestCars_45 : decode cX11_bestCars 45 = .ok (.if_icmp .ne 21, 3) := by decide +kernel
theorem dX11_bestCars_48 : decode cX11_bestCars 48 = .ok (.iload_n 3, 1) := by decide +kernel
theorem dX11_bestCars_49 : decode cX11_bestCars 49 = .ok (.iload_n 1, 1) := by decide +kernel
theorem dX11_bestCars_50 : decode cX11_bestCars 50 = .ok (.if_icmp .eq 16, 3) := by decide +kernel
theorem dX11_bestCars_53 : decode cX11_bestCars 53 = .ok (.iload_n 3, 1) := by decide +kernel
theorem dX11_bestCars_54 : decode cX11_bestCars 54 = .ok (.iload_n 1, 1) := by decide +kernel
theorem dX11_bestCars_55 : decode cX11_bestCars 55 = .ok (.invokestatic 211, 3) := by decide +kernel
theorem dX11_bestCars_58 : decode cX11_bestCars 58 = .ok (.ifCond .eq 8, 3) := by decide +kernel
theorem dX11_bestCars_61 : decode cX11_bestCars 61 = .ok (.iload_n 3, 1) := by decide +kernel
theorem dX11_bestCars_62 : decode cX11_bestCars 62 = .ok (.istore_n 1, 1) := by decide +kernel
theorem dX11_bestCars_63 : decode cX11_bestCars 63 = .ok (.iload 4, 2) := by decide +kernel
theorem dX11_bestCars_65 : decode cX11_bestCars 65 = .ok (.istore_n 2, 1) := by decide +kernel
theorem dX11_bestCars_66 : decode cX11_bestCars 66 = .ok (.iinc 3 1, 3) := by decide +kernel
theorem dX11_bestCars_69 : decode cX11_bestCars 69 = .ok (.goto (-57), 3) := by decide +kernel
theorem dX11_bestCars_72 : decode cX11_bestCars 72 = .ok (.iload_n 1, 1) := by decide +kernel
theorem dX11_bestCars_73 : decode cX11_bestCars 73 = .ok (.ireturn, 1) := by decide +kernel
theorem dX11_packing_0 : decode cX11_packing 0 = .ok (.aload_n 0, 1) := by decide +kernel
theorem dX11_packing_1 : decode cX11_packing 1 = .ok (.invokevirtual 214, 3) := by decide +kernel
theorem dX11_packing_4 : decode cX11_packing 4 = .ok (.istore_n 1, 1) := by decide +kernel
theorem dX11_packing_5 : decode cX11_packing 5 = .ok (.iload_n 1, 1) := by decide +kernel
theorem dX11_packing_6 : decode cX11_packing 6 = .ok (.ldc 152, 2) := by decide +kernel
theorem dX11_packing_8 : decode cX11_packing 8 = .ok (.if_icmp .ne 8, 3) := by decide +kernel
theorem dX11_packing_11 : decode cX11_packing 11 = .ok (.ldc 152, 2) := by decide +kernel
theorem dX11_packing_13 : decode cX11_packing 13 = .ok (.goto 8, 3) := by decide +kernel
theorem dX11_packing_16 : decode cX11_packing 16 = .ok (.aload_n 0, 1) := by decide +kernel
theorem dX11_packing_17 : decode cX11_packing 17 = .ok (.iload_n 1, 1) := by decide +kernel
theorem dX11_packing_18 : decode cX11_packing 18 = .ok (.invokevirtual 208, 3) := by decide +kernel
theorem dX11_packing_21 : decode cX11_packing 21 = .ok (.ireturn, 1) := by decide +kernel
theorem dX11_carOf_0 : decode cX11_carOf 0 = .ok (.aload_n 0, 1) := by decide +kernel
theorem dX11_carOf_1 : decode cX11_carOf 1 = .ok (.iload_n 1, 1) := by decide +kernel
theorem dX11_carOf_2 : decode cX11_carOf 2 = .ok (.invokevirtual 139, 3) := by decide +kernel
theorem dX11_carOf_5 : decode cX11_carOf 5 = .ok (.ifCond .ne 6, 3) := by decide +kernel
theorem dX11_carOf_8 : decode cX11_carOf 8 = .ok (.ldc 143, 2) := by decide +kernel
theorem dX11_carOf_10 : decode cX11_carOf 10 = .ok (.ireturn, 1) := by decide +kernel
theorem dX11_carOf_11 : decode cX11_carOf 11 = .ok (.aload_n 0, 1) := by decide +kernel
theorem dX11_carOf_12 : decode cX11_carOf 12 = .ok (.invokevirtual 214, 3) := by decide +kernel
theorem dX11_carOf_15 : decode cX11_carOf 15 = .ok (.istore_n 2, 1) := by decide +kernel
theorem dX11_carOf_16 : decode cX11_carOf 16 = .ok (.iload_n 2, 1) := by decide +kernel
theorem dX11_carOf_17 : decode cX11_carOf 17 = .ok (.ldc 152, 2) := by decide +kernel
theorem dX11_carOf_19 : decode cX11_carOf 19 = .ok (.if_icmp .ne 8, 3) := by decide +kernel
theorem dX11_carOf_22 : decode cX11_carOf 22 = .ok (.ldc 152, 2) := by decide +kernel
theorem dX11_carOf_24 : decode cX11_carOf 24 = .ok (.goto 8, 3) := by decide +kernel
theorem dX11_carOf_27 : decode cX11_carOf 27 = .ok (.iload_n 2, 1) := by decide +kernel
theorem dX11_carOf_28 : decode cX11_carOf 28 = .ok (.iload_n 1, 1) := by decide +kernel
theorem dX11_carOf_29 : decode cX11_carOf 29 = .ok (.ishr, 1) := by decide +kernel
theorem dX11_carOf_30 : decode cX11_carOf 30 = .ok (.iconst 1, 1) := by decide +kernel
theorem dX11_carOf_31 : decode cX11_carOf 31 = .ok (.iand, 1) := by decide +kernel
theorem dX11_carOf_32 : decode cX11_carOf 32 = .ok (.ireturn, 1) := by decide +kernel
theorem dX11_turned_0 : decode cX11_turned 0 = .ok (.iload_n 1, 1) := by decide +kernel
theorem dX11_turned_1 : decode cX11_turned 1 = .ok (.i2l, 1) := by decide +kernel
theorem dX11_turned_2 : decode cX11_turned 2 = .ok (.lconst 0, 1) := by decide +kernel
theorem dX11_turned_3 : decode cX11_turned 3 = .ok (.iconst 1, 1) := by decide +kernel
theorem dX11_turned_4 : decode cX11_turned 4 = .ok (.aload_n 0, 1) := by decide +kernel
theorem dX11_turned_5 : decode cX11_turned 5 = .ok (.getfield 135, 3) := by decide +kernel
theorem dX11_turned_8 : decode cX11_turned 8 = .ok (.ishl, 1) := by decide +kernel
theorem dX11_turned_9 : decode cX11_turned 9 = .ok (.iconst 1, 1) := by decide +kernel
theorem dX11_turned_10 : decode cX11_turned 10 = .ok (.isub, 1) := by decide +kernel
theorem dX11_turned_11 : decode cX11_turned 11 = .ok (.i2l, 1) := by decide +kernel
theorem dX11_turned_12 : decode cX11_turned 12 = .ok (.invokestatic 126, 3) := by decide +kernel
theorem dX11_turned_15 : decode cX11_turned 15 = .ok (.ifCond .ne 6, 3) := by decide +kernel
theorem dX11_turned_18 : decode cX11_turned 18 = .ok (.ldc 130, 2) := by decide +kernel
theorem dX11_turned_20 : decode cX11_turned 20 = .ok (.ireturn, 1) := by decide +kernel
theorem dX11_turned_21 : decode cX11_turned 21 = .ok (.aload_n 0, 1) := by decide +kernel
theorem dX11_turned_22 : decode cX11_turned 22 = .ok (.invokevirtual 173, 3) := by decide +kernel
theorem dX11_turned_25 : decode cX11_turned 25 = .ok (.aload_n 0, 1) := by decide +kernel
theorem dX11_turned_26 : decode cX11_turned 26 = .ok (.iload_n 1, 1) := by decide +kernel
theorem dX11_turned_27 : decode cX11_turned 27 = .ok (.invokevirtual 208, 3) := by decide +kernel
theorem dX11_turned_30 : decode cX11_turned 30 = .ok (.ireturn, 1) := by decide +kernel
theorem dX11_report_0 : decode cX11_report 0 = .ok (.iload_n 1, 1) := by decide +kernel
theorem dX11_report_1 : decode cX11_report 1 = .ok (.i2l, 1) := by decide +kernel
theorem dX11_report_2 : decode cX11_report 2 = .ok (.lconst 0, 1) := by decide +kernel
theorem dX11_report_3 : decode cX11_report 3 = .ok (.ldc2_w 179, 3) := by decide +kernel
theorem dX11_report_6 : decode cX11_report 6 = .ok (.invokestatic 126, 3) := by decide +kernel
theorem dX11_report_9 : decode cX11_report 9 = .ok (.ifCond .eq 40, 3) := by decide +kernel
theorem dX11_report_12 : decode cX11_report 12 = .ok (.iload_n 2, 1) := by decide +kernel
theorem dX11_report_13 : decode cX11_report 13 = .ok (.i2l, 1) := by decide +kernel
theorem dX11_report_14 : decode cX11_report 14 = .ok (.lconst 0, 1) := by decide +kernel
theorem dX11_report_15 : decode cX11_report 15 = .ok (.ldc2_w 179, 3) := by decide +kernel
theorem dX11_report_18 : decode cX11_report 18 = .ok (.invokestatic 126, 3) := by decide +kernel
theorem dX11_report_21 : decode cX11_report 21 = .ok (.ifCond .eq 28, 3) := by decide +kernel
theorem dX11_report_24 : decode cX11_report 24 = .ok (.iload_n 3, 1) := by decide +kernel
theorem dX11_report_25 : decode cX11_report 25 = .ok (.i2l, 1) := by decide +kernel
theorem dX11_report_26 : decode cX11_report 26 = .ok (.lconst 0, 1) := by decide +kernel
theorem dX11_report_27 : decode cX11_report 27 = .ok (.ldc2_w 179, 3) := by decide +kernel
theorem dX11_report_30 : decode cX11_report 30 = .ok (.invokestatic 126, 3) := by decide +kernel
theorem dX11_report_33 : decode cX11_report 33 = .ok (.ifCond .eq 16, 3) := by decide +kernel
theorem dX11_report_36 : decode cX11_report 36 = .ok (.iload 4, 2) := by decide +kernel
theorem dX11_report_38 : decode cX11_report 38 = .ok (.i2l, 1) := by decide +kernel
theorem dX11_report_39 : decode cX11_report 39 = .ok (.lconst 0, 1) := by decide +kernel
theorem dX11_report_40 : decode cX11_report 40 = .ok (.ldc2_w 179, 3) := by decide +kernel
theorem dX11_report_43 : decode cX11_report 43 = .ok (.invokestatic 126, 3) := by decide +kernel
theorem dX11_report_46 : decode cX11_report 46 = .ok (.ifCond .ne 6, 3) := by decide +kernel
theorem dX11_report_49 : decode cX11_report 49 = .ok (.ldc 130, 2) := by decide +kernel
theorem dX11_report_51 : decode cX11_report 51 = .ok (.ireturn, 1) := by decide +kernel
theorem dX11_report_52 : decode cX11_report 52 = .ok (.aload_n 0, 1) := by decide +kernel
theorem dX11_report_53 : decode cX11_report 53 = .ok (.getfield 218, 3) := by decide +kernel
theorem dX11_report_56 : decode cX11_report 56 = .ok (.bipush 40, 2) := by decide +kernel
theorem dX11_report_58 : decode cX11_report 58 = .ok (.if_icmp .ne 6, 3) := by decide +kernel
theorem dX11_report_61 : decode cX11_report 61 = .ok (.ldc 138, 2) := by decide +kernel
theorem dX11_report_63 : decode cX11_report 63 = .ok (.ireturn, 1) := by decide +kernel
theorem dX11_report_64 : decode cX11_report 64 = .ok (.aload_n 0, 1) := by decide +kernel
theorem dX11_report_65 : decode cX11_report 65 = .ok (.getfield 75, 3) := by decide +kernel
theorem dX11_report_68 : decode cX11_report 68 = .ok (.aload_n 0, 1) := by decide +kernel
theorem dX11_report_69 : decode cX11_report 69 = .ok (.getfield 218, 3) := by decide +kernel
theorem dX11_report_72 : decode cX11_report 72 = .ok (.iconst 1, 1) := by decide +kernel
theorem dX11_report_73 : decode cX11_report 73 = .ok (.iload_n 1, 1) := by decide +kernel
theorem dX11_report_74 : decode cX11_report 74 = .ok (.ishl, 1) := by decide +kernel
theorem dX11_report_75 : decode cX11_report 75 = .ok (.bipush 16, 2) := by decide +kernel
theorem dX11_report_77 : decode cX11_report 77 = .ok (.iload_n 2, 1) := by decide +kernel
theorem dX11_report_78 : decode cX11_report 78 = .ok (.ishl, 1) := by decide +kernel
theorem dX11_report_79 : decode cX11_report 79 = .ok (.ior, 1) := by decide +kernel
theorem dX11_report_80 : decode cX11_report 80 = .ok (.sipush 256, 3) := by decide +kernel
theorem dX11_report_83 : decode cX11_report 83 = .ok (.iload_n 3, 1) := by decide +kernel
theorem dX11_report_84 : decode cX11_report 84 = .ok (.ishl, 1) := by decide +kernel
theorem dX11_report_85 : decode cX11_report 85 = .ok (.ior, 1) := by decide +kernel
theorem dX11_report_86 : decode cX11_report 86 = .ok (.sipush 4096, 3) := by decide +kernel
theorem dX11_report_89 : decode cX11_report 89 = .ok (.iload 4, 2) := by decide +kernel
theorem dX11_report_91 : decode cX11_report 91 = .ok (.ishl, 1) := by decide +kernel
theorem dX11_report_92 : decode cX11_report 92 = .ok (.ior, 1) := by decide +kernel
theorem dX11_report_93 : decode cX11_report 93 = .ok (.iastore, 1) := by decide +kernel
theorem dX11_report_94 : decode cX11_report 94 = .ok (.aload_n 0, 1) := by decide +kernel
theorem dX11_report_95 : decode cX11_report 95 = .ok (.getfield 78, 3) := by decide +kernel
theorem dX11_report_98 : decode cX11_report 98 = .ok (.aload_n 0, 1) := by decide +kernel
theorem dX11_report_99 : decode cX11_report 99 = .ok (.getfield 218, 3) := by decide +kernel
theorem dX11_report_102 : decode cX11_report 102 = .ok (.iload 5, 2) := by decide +kernel
theorem dX11_report_104 : decode cX11_report 104 = .ok (.bastore, 1) := by decide +kernel
theorem dX11_report_105 : decode cX11_report 105 = .ok (.aload_n 0, 1) := by decide +kernel
theorem dX11_report_106 : decode cX11_report 106 = .ok (.dup, 1) := by decide +kernel
theorem dX11_report_107 : decode cX11_report 107 = .ok (.getfield 218, 3) := by decide +kernel
theorem dX11_report_110 : decode cX11_report 110 = .ok (.iconst 1, 1) := by decide +kernel
theorem dX11_report_111 : decode cX11_report 111 = .ok (.iadd, 1) := by decide +kernel
theorem dX11_report_112 : decode cX11_report 112 = .ok (.putfield 218, 3) := by decide +kernel
theorem dX11_report_115 : decode cX11_report 115 = .ok (.aload_n 0, 1) := by decide +kernel
theorem dX11_report_116 : decode cX11_report 116 = .ok (.getfield 218, 3) := by decide +kernel
theorem dX11_report_119 : decode cX11_report 119 = .ok (.iconst 1, 1) := by decide +kernel
theorem dX11_report_120 : decode cX11_report 120 = .ok (.isub, 1) := by decide +kernel
theorem dX11_report_121 : decode cX11_report 121 = .ok (.ireturn, 1) := by decide +kernel
theorem dX11_sure_0 : decode cX11_sure 0 = .ok (.iload_n 1, 1) := by decide +kernel
theorem dX11_sure_1 : decode cX11_sure 1 = .ok (.i2l, 1) := by decide +kernel
theorem dX11_sure_2 : decode cX11_sure 2 = .ok (.lconst 0, 1) := by decide +kernel
theorem dX11_sure_3 : decode cX11_sure 3 = .ok (.ldc2_w 161, 3) := by decide +kernel
theorem dX11_sure_6 : decode cX11_sure 6 = .ok (.invokestatic 126, 3) := by decide +kernel
theorem dX11_sure_9 : decode cX11_sure 9 = .ok (.ifCond .ne 6, 3) := by decide +kernel
theorem dX11_sure_12 : decode cX11_sure 12 = .ok (.ldc 130, 2) := by decide +kernel
theorem dX11_sure_14 : decode cX11_sure 14 = .ok (.ireturn, 1) := by decide +kernel
theorem dX11_sure_15 : decode cX11_sure 15 = .ok (.aload_n 0, 1) := by decide +kernel
theorem dX11_sure_16 : decode cX11_sure 16 = .ok (.getfield 81, 3) := by decide +kernel
theorem dX11_sure_19 : decode cX11_sure 19 = .ok (.istore_n 2, 1) := by decide +kernel
theorem dX11_sure_20 : decode cX11_sure 20 = .ok (.aload_n 0, 1) := by decide +kernel
theorem dX11_sure_21 : decode cX11_sure 21 = .ok (.iload_n 1, 1) := by decide +kernel
theorem dX11_sure_22 : decode cX11_sure 22 = .ok (.putfield 81, 3) := by decide +kernel
theorem dX11_sure_25 : decode cX11_sure 25 = .ok (.iload_n 2, 1) := by decide +kernel
theorem dX11_sure_26 : decode cX11_sure 26 = .ok (.ireturn, 1) := by decide +kernel
theorem dX11_explainsOf_0 : decode cX11_explainsOf 0 = .ok (.iconst 0, 1) := by decide +kernel
theorem dX11_explainsOf_1 : decode cX11_explainsOf 1 = .ok (.istore_n 3, 1) := by decide +kernel
theorem dX11_explainsOf_2 : decode cX11_explainsOf 2 = .ok (.iconst 0, 1) := by decide +kernel
theorem dX11_explainsOf_3 : decode cX11_explainsOf 3 = .ok (.istore 4, 2) := by decide +kernel
theorem dX11_explainsOf_5 : decode cX11_explainsOf 5 = .ok (.iload 4, 2) := by decide +kernel
theorem dX11_explainsOf_7 : decode cX11_explainsOf 7 = .ok (.aload_n 0, 1) := by decide +kernel
theorem dX11_explainsOf_8 : decode cX11_explainsOf 8 = .ok (.getfield 218, 3) := by decide +kernel
theorem dX11_explainsOf_11 : decode cX11_explainsOf 11 = .ok (.if_icmp .ge 46, 3) := by decide +kernel
theorem dX11_explainsOf_14 : decode cX11_explainsOf 14 = .ok (.iload_n 3, 1) := by decide +kernel
theorem dX11_explainsOf_15 : decode cX11_explainsOf 15 = .ok (.aload_n 0, 1) := by decide +kernel
theorem dX11_explainsOf_16 : decode cX11_explainsOf 16 = .ok (.getfield 75, 3) := by decide +kernel
theorem dX11_explainsOf_19 : decode cX11_explainsOf 19 = .ok (.iload 4, 2) := by decide +kernel
theorem dX11_explainsOf_21 : decode cX11_explainsOf 21 = .ok (.iaload, 1) := by decide +kernel
theorem dX11_explainsOf_22 : decode cX11_explainsOf 22 = .ok (.iload_n 1, 1) := by decide +kernel
theorem dX11_explainsOf_23 : decode cX11_explainsOf 23 = .ok (.ishr, 1) := by decide +kernel
theorem dX11_explainsOf_24 : decode cX11_explainsOf 24 = .ok (.iconst 1, 1) := by decide +kernel
theorem dX11_explainsOf_25 : decode cX11_explainsOf 25 = .ok (.iand, 1) := by decide +kernel
theorem dX11_explainsOf_26 : decode cX11_explainsOf 26 = .ok (.iconst 1, 1) := by decide +kernel
theorem dX11_explainsOf_27 : decode cX11_explainsOf 27 = .ok (.if_icmp .ne 21, 3) := by decide +kernel
theorem dX11_explainsOf_30 : decode cX11_explainsOf 30 = .ok (.aload_n 0, 1) := by decide +kernel
theorem dX11_explainsOf_31 : decode cX11_explainsOf 31 = .ok (.getfield 78, 3) := by decide +kernel
theorem dX11_explainsOf_34 : decode cX11_explainsOf 34 = .ok (.iload 4, 2) := by decide +kernel
theorem dX11_explainsOf_36 : decode cX11_explainsOf 36 = .ok (.baload, 1) := by decide +kernel
theorem dX11_explainsOf_37 : decode cX11_explainsOf 37 = .ok (.ifCond .ne 7, 3) := by decide +kernel
theorem dX11_explainsOf_40 : decode cX11_explainsOf 40 = .ok (.iload_n 2, 1) := by decide +kernel
theorem dX11_explainsOf_41 : decode cX11_explainsOf 41 = .ok (.ifCond .ne 7, 3) := by decide +kernel
theorem dX11_explainsOf_44 : decode cX11_explainsOf 44 = .ok (.iconst 1, 1) := by decide +kernel
theorem dX11_explainsOf_45 : decode cX11_explainsOf 45 = .ok (.goto 4, 3) := by decide +kernel
theorem dX11_explainsOf_48 : decode cX11_explainsOf 48 = .ok (.iconst 0, 1) := by decide +kernel
theorem dX11_explainsOf_49 : decode cX11_explainsOf 49 = .ok (.iadd, 1) := by decide +kernel
theorem dX11_explainsOf_50 : decode cX11_explainsOf 50 = .ok (.istore_n 3, 1) := by decide +kernel
theorem dX11_explainsOf_51 : decode cX11_explainsOf 51 = .ok (.iinc 4 1, 3) := by decide +kernel
theorem dX11_explainsOf_54 : decode cX11_explainsOf 54 = .ok (.goto (-49), 3) := by decide +kernel
theorem dX11_explainsOf_57 : decode cX11_explainsOf 57 = .ok (.iload_n 3, 1) := by decide +kernel
theorem dX11_explainsOf_58 : decode cX11_explainsOf 58 = .ok (.ireturn, 1) := by decide +kernel
theorem dX11_explains_0 : decode cX11_explains 0 = .ok (.iload_n 1, 1) := by decide +kernel
theorem dX11_explains_1 : decode cX11_explains 1 = .ok (.i2l, 1) := by decide +kernel
theorem dX11_explains_2 : decode cX11_explains 2 = .ok (.lconst 0, 1) := by decide +kernel
theorem dX11_explains_3 : decode cX11_explains 3 = .ok (.ldc2_w 221, 3) := by decide +kernel
theorem dX11_explains_6 : decode cX11_explains 6 = .ok (.invokestatic 126, 3) := by decide +kernel
theorem dX11_explains_9 : decode cX11_explains 9 = .ok (.ifCond .eq 12, 3) := by decide +kernel
theorem dX11_explains_12 : decode cX11_explains 12 = .ok (.aload_n 0, 1) := by decide +kernel
theorem dX11_explains_13 : decode cX11_explains 13 = .ok (.iload_n 1, 1) := by decide +kernel
theorem dX11_explains_14 : decode cX11_explains 14 = .ok (.iload_n 2, 1) := by decide +kernel
theorem dX11_explains_15 : decode cX11_explains 15 = .ok (.invokevirtual 223, 3) := by decide +kernel
theorem dX11_explains_18 : decode cX11_explains 18 = .ok (.goto 5, 3) := by decide +kernel
theorem dX11_explains_21 : decode cX11_explains 21 = .ok (.ldc 130, 2) := by decide +kernel
theorem dX11_explains_23 : decode cX11_explains 23 = .ok (.ireturn, 1) := by decide +kernel
theorem dX11_isLikely_0 : decode cX11_isLikely 0 = .ok (.aload_n 0, 1) := by decide +kernel
theorem dX11_isLikely_1 : decode cX11_isLikely 1 = .ok (.iload_n 1, 1) := by decide +kernel
theorem dX11_isLikely_2 : decode cX11_isLikely 2 = .ok (.iconst 1, 1) := by decide +kernel
theorem dX11_isLikely_3 : decode cX11_isLikely 3 = .ok (.invokevirtual 223, 3) := by decide +kernel
theorem dX11_isLikely_6 : decode cX11_isLikely 6 = .ok (.istore_n 2, 1) := by decide +kernel
theorem dX11_isLikely_7 : decode cX11_isLikely 7 = .ok (.iload_n 2, 1) := by decide +kernel
theorem dX11_isLikely_8 : decode cX11_isLikely 8 = .ok (.ifCond .le 25, 3) := by decide +kernel
theorem dX11_isLikely_11 : decode cX11_isLikely 11 = .ok (.bipush 100, 2) := by decide +kernel
theorem dX11_isLikely_13 : decode cX11_isLikely 13 = .ok (.iload_n 2, 1) := by decide +kernel
theorem dX11_isLikely_14 : decode cX11_isLikely 14 = .ok (.imul, 1) := by decide +kernel
theorem dX11_isLikely_15 : decode cX11_isLikely 15 = .ok (.aload_n 0, 1) := by decide +kernel
theorem dX11_isLikely_16 : decode cX11_isLikely 16 = .ok (.getfield 81, 3) := by decide +kernel
theorem dX11_isLikely_19 : decode cX11_isLikely 19 = .ok (.aload_n 0, 1) := by decide +kernel
theorem dX11_isLikely_20 : decode cX11_isLikely 20 = .ok (.iload_n 1, 1) := by decide +kernel
theorem dX11_isLikely_21 : decode cX11_isLikely 21 = .ok (.iconst 0, 1) := by decide +kernel
theorem dX11_isLikely_22 : decode cX11_isLikely 22 = .ok (.invokevirtual 223, 3) := by decide +kernel
theorem dX11_isLikely_25 : decode cX11_isLikely 25 = .ok (.imul, 1) := by decide +kernel
theorem dX11_isLikely_26 : decode cX11_isLikely 26 = .ok (.if_icmp .lt 7, 3) := by decide +kernel
theorem dX11_isLikely_29 : decode cX11_isLikely 29 = .ok (.iconst 1, 1) := by decide +kernel
theorem dX11_isLikely_30 : decode cX11_isLikely 30 = .ok (.goto 4, 3) := by decide +kernel
theorem dX11_isLikely_33 : decode cX11_isLikely 33 = .ok (.iconst 0, 1) := by decide +kernel
theorem dX11_isLikely_34 : decode cX11_isLikely 34 = .ok (.ireturn, 1) := by decide +kernel
theorem dX11_likely_0 : decode cX11_likely 0 = .ok (.iload_n 1, 1) := by decide +kernel
theorem dX11_likely_1 : decode cX11_likely 1 = .ok (.i2l, 1) := by decide +kernel
theorem dX11_likely_2 : decode cX11_likely 2 = .ok (.lconst 0, 1) := by decide +kernel
theorem dX11_likely_3 : decode cX11_likely 3 = .ok (.ldc2_w 221, 3) := by decide +kernel
theorem dX11_likely_6 : decode cX11_likely 6 = .ok (.invokestatic 126, 3) := by decide +kernel
theorem dX11_likely_9 : decode cX11_likely 9 = .ok (.ifCond .ne 8, 3) := by decide +kernel
theorem dX11_likely_12 : decode cX11_likely 12 = .ok (.ldc 130, 2) := by decide +kernel
theorem dX11_likely_14 : decode cX11_likely 14 = .ok (.goto 16, 3) := by decide +kernel
theorem dX11_likely_17 : decode cX11_likely 17 = .ok (.aload_n 0, 1) := by decide +kernel
theorem dX11_likely_18 : decode cX11_likely 18 = .ok (.iload_n 1, 1) := by decide +kernel
theorem dX11_likely_19 : decode cX11_likely 19 = .ok (.invokevirtual 227, 3) := by decide +kernel
theorem dX11_likely_22 : decode cX11_likely 22 = .ok (.ifCond .eq 7, 3) := by decide +kernel
theorem dX11_likely_25 : decode cX11_likely 25 = .ok (.iconst 1, 1) := by decide +kernel
theorem dX11_likely_26 : decode cX11_likely 26 = .ok (.goto 4, 3) := by decide +kernel
theorem dX11_likely_29 : decode cX11_likely 29 = .ok (.iconst 0, 1) := by decide +kernel
theorem dX11_likely_30 : decode cX11_likely 30 = .ok (.ireturn, 1) := by decide +kernel
theorem dX11_explainsAll_0 : decode cX11_explainsAll 0 = .ok (.iconst 1, 1) := by decide +kernel
theorem dX11_explainsAll_1 : decode cX11_explainsAll 1 = .ok (.istore_n 2, 1) := by decide +kernel
theorem dX11_explainsAll_2 : decode cX11_explainsAll 2 = .ok (.iconst 0, 1) := by decide +kernel
theorem dX11_explainsAll_3 : decode cX11_explainsAll 3 = .ok (.istore_n 3, 1) := by decide +kernel
theorem dX11_explainsAll_4 : decode cX11_explainsAll 4 = .ok (.iload_n 3, 1) := by decide +kernel
theorem dX11_explainsAll_5 : decode cX11_explainsAll 5 = .ok (.aload_n 0, 1) := by decide +kernel
theorem dX11_explainsAll_6 : decode cX11_explainsAll 6 = .ok (.getfield 218, 3) := by decide +kernel
theorem dX11_explainsAll_9 : decode cX11_explainsAll 9 = .ok (.if_icmp .ge 39, 3) := by decide +kernel
theorem dX11_explainsAll_12 : decode cX11_explainsAll 12 = .ok (.iload_n 2, 1) := by decide +kernel
theorem dX11_explainsAll_13 : decode cX11_explainsAll 13 = .ok (.ifCond .eq 35, 3) := by decide +kernel
theorem dX11_explainsAll_16 : decode cX11_explainsAll 16 = .ok (.aload_n 0, 1) := by decide +kernel
theorem dX11_explainsAll_17 : decode cX11_explainsAll 17 = .ok (.getfield 78, 3) := by decide +kernel
theorem dX11_explainsAll_20 : decode cX11_explainsAll 20 = .ok (.iload_n 3, 1) := by decide +kernel
theorem dX11_explainsAll_21 : decode cX11_explainsAll 21 = .ok (.baload, 1) := by decide +kernel
theorem dX11_explainsAll_22 : decode cX11_explainsAll 22 = .ok (.ifCond .eq 14, 3) := by decide +kernel
theorem dX11_explainsAll_25 : decode cX11_explainsAll 25 = .ok (.aload_n 0, 1) := by decide +kernel
theorem dX11_explainsAll_26 : decode cX11_explainsAll 26 = .ok (.getfield 75, 3) := by decide +kernel
theorem dX11_explainsAll_29 : decode cX11_explainsAll 29 = .ok (.iload_n 3, 1) := by decide +kernel
theorem dX11_explainsAll_30 : decode cX11_explainsAll 30 = .ok (.iaload, 1) := by decide +kernel
theorem dX11_explainsAll_31 : decode cX11_explainsAll 31 = .ok (.iload_n 1, 1) := by decide +kernel
theorem dX11_explainsAll_32 : decode cX11_explainsAll 32 = .ok (.iand, 1) := by decide +kernel
theorem dX11_explainsAll_33 : decode cX11_explainsAll 33 = .ok (.ifCond .eq 7, 3) := by decide +kernel
theorem dX11_explainsAll_36 : decode cX11_explainsAll 36 = .ok (.iconst 1, 1) := by decide +kernel
theorem dX11_explainsAll_37 : decode cX11_explainsAll 37 = .ok (.goto 4, 3) := by decide +kernel
theorem dX11_explainsAll_40 : decode cX11_explainsAll 40 = .ok (.iconst 0, 1) := by decide +kernel
theorem dX11_explainsAll_41 : decode cX11_explainsAll 41 = .ok (.istore_n 2, 1) := by decide +kernel
theorem dX11_explainsAll_42 : decode cX11_explainsAll 42 = .ok (.iinc 3 1, 3) := by decide +kernel
theorem dX11_explainsAll_45 : decode cX11_explainsAll 45 = .ok (.goto (-41), 3) := by decide +kernel
theorem dX11_explainsAll_48 : decode cX11_explainsAll 48 = .ok (.iload_n 2, 1) := by decide +kernel
theorem dX11_explainsAll_49 : decode cX11_explainsAll 49 = .ok (.ireturn, 1) := by decide +kernel
theorem dX11_bestCauses_0 : decode cX11_bestCauses 0 = .ok (.iconst 0, 1) := by decide +kernel
theorem dX11_bestCauses_1 : decode cX11_bestCauses 1 = .ok (.istore_n 1, 1) := by decide +kernel
theorem dX11_bestCauses_2 : decode cX11_bestCauses 2 = .ok (.iconst 0, 1) := by decide +kernel
theorem dX11_bestCauses_3 : decode cX11_bestCauses 3 = .ok (.istore_n 2, 1) := by decide +kernel
theorem dX11_bestCauses_4 : decode cX11_bestCauses 4 = .ok (.iload_n 2, 1) := by decide +kernel
theorem dX11_bestCauses_5 : decode cX11_bestCauses 5 = .ok (.bipush 16, 2) := by decide +kernel
theorem dX11_bestCauses_7 : decode cX11_bestCauses 7 = .ok (.if_icmp .ge 27, 3) := by decide +kernel
theorem dX11_bestCauses_10 : decode cX11_bestCauses 10 = .ok (.iload_n 1, 1) := by decide +kernel
theorem dX11_bestCauses_11 : decode cX11_bestCauses 11 = .ok (.aload_n 0, 1) := by decide +kernel
theorem dX11_bestCauses_12 : decode cX11_bestCauses 12 = .ok (.iload_n 2, 1) := by decide +kernel
theorem dX11_bestCauses_13 : decode cX11_bestCauses 13 = .ok (.invokevirtual 227, 3) := by decide +kernel
theorem dX11_bestCauses_16 : decode cX11_bestCauses 16 = .ok (.ifCond .eq 9, 3) := by decide +kernel
theorem dX11_bestCauses_19 : decode cX11_bestCauses 19 = .ok (.iconst 1, 1) := by decide +kernel
theorem dX11_bestCauses_20 : decode cX11_bestCauses 20 = .ok (.iload_n 2, 1) := by decide +kernel
theorem dX11_bestCauses_21 : decode cX11_bestCauses 21 = .ok (.ishl, 1) := by decide +kernel
theorem dX11_bestCauses_22 : decode cX11_bestCauses 22 = .ok (.goto 4, 3) := by decide +kernel
theorem dX11_bestCauses_25 : decode cX11_bestCauses 25 = .ok (.iconst 0, 1) := by decide +kernel
theorem dX11_bestCauses_26 : decode cX11_bestCauses 26 = .ok (.ior, 1) := by decide +kernel
theorem dX11_bestCauses_27 : decode cX11_bestCauses 27 = .ok (.istore_n 1, 1) := by decide +kernel
theorem dX11_bestCauses_28 : decode cX11_bestCauses 28 = .ok (.iinc 2 1, 3) := by decide +kernel
theorem dX11_bestCauses_31 : decode cX11_bestCauses 31 = .ok (.goto (-27), 3) := by decide +kernel
theorem dX11_bestCauses_34 : decode cX11_bestCauses 34 = .ok (.ldc 152, 2) := by decide +kernel
theorem dX11_bestCauses_36 : decode cX11_bestCauses 36 = .ok (.istore_n 2, 1) := by decide +kernel
theorem dX11_bestCauses_37 : decode cX11_bestCauses 37 = .ok (.iconst 0, 1) := by decide +kernel
theorem dX11_bestCauses_38 : decode cX11_bestCauses 38 = .ok (.istore_n 3, 1) := by decide +kernel
theorem dX11_bestCauses_39 : decode cX11_bestCauses 39 = .ok (.iload_n 3, 1) := by decide +kernel
theorem dX11_bestCauses_40 : decode cX11_bestCauses 40 = .ok (.ldc 230, 2) := by decide +kernel
theorem dX11_bestCauses_42 : decode cX11_bestCauses 42 = .ok (.if_icmp .ge 63, 3) := by decide +kernel
theorem dX11_bestCauses_45 : decode cX11_bestCauses 45 = .ok (.iload_n 3, 1) := by decide +kernel
theorem dX11_bestCauses_46 : decode cX11_bestCauses 46 = .ok (.iload_n 1, 1) := by decide +kernel
theorem dX11_bestCauses_47 : decode cX11_bestCauses 47 = .ok (.iconst (-1), 1) := by decide +kernel
theorem dX11_bestCauses_48 : decode cX11_bestCauses 48 = .ok (.ixor, 1) := by decide +kernel
theorem dX11_bestCauses_49 : decode cX11_bestCauses 49 = .ok (.iand, 1) := by decide +kernel
theorem dX11_bestCauses_50 : decode cX11_bestCauses 50 = .ok (.ifCond .ne 49, 3) := by decide +kernel
theorem dX11_bestCauses_53 : decode cX11_bestCauses 53 = .ok (.iload_n 2, 1) := by decide +kernel
theorem dX11_bestCauses_54 : decode cX11_bestCauses 54 = .ok (.ldc 152, 2) := by decide +kernel
theorem dX11_bestCauses_56 : decode cX11_bestCauses 56 = .ok (.if_icmp .eq 33, 3) := by decide +kernel
theorem dX11_bestCauses_59 : decode cX11_bestCauses 59 = .ok (.iload_n 3, 1) := by decide +kernel
theorem dX11_bestCauses_60 : decode cX11_bestCauses 60 = .ok (.invokestatic 176, 3) := by decide +kernel
theorem dX11_bestCauses_63 : decode cX11_bestCauses 63 = .ok (.iload_n 2, 1) := by decide +kernel
theorem dX11_bestCauses_64 : decode cX11_bestCauses 64 = .ok (.invokestatic 176, 3) := by decide +kernel
theorem dX11_bestCauses_67 : decode cX11_bestCauses 67 = .ok (.if_icmp .lt 22, 3) := by decide +kernel
theorem dX11_bestCauses_70 : decode cX11_bestCauses 70 = .ok (.iload_n 3, 1) := by decide +kernel
theorem dX11_bestCauses_71 : decode cX11_bestCauses 71 = .ok (.invokestatic 176, 3) := by decide +kernel
theorem dX11_bestCauses_74 : decode cX11_bestCauses 74 = .ok (.iload_n 2, 1) := by decide +kernel
theorem dX11_bestCauses_75 : decode cX11_bestCauses 75 = .ok (.invokestatic 176, 3) := by decide +kernel
theorem dX11_bestCauses_78 : decode cX11_bestCauses 78 = .ok (.if_icmp .ne 21, 3) := by decide +kernel
theorem dX11_bestCauses_81 : decode cX11_bestCauses 81 = .ok (.iload_n 3, 1) := by decide +kernel
theorem dX11_bestCauses_82 : decode cX11_bestCauses 82 = .ok (.iload_n 2, 1) := by decide +kernel
theorem dX11_bestCauses_83 : decode cX11_bestCauses 83 = .ok (.invokestatic 211, 3) := by decide +kernel
theorem dX11_bestCauses_86 : decode cX11_bestCauses 86 = .ok (.ifCond .ne 13, 3) := by decide +kernel
theorem dX11_bestCauses_89 : decode cX11_bestCauses 89 = .ok (.aload_n 0, 1) := by decide +kernel
theorem dX11_bestCauses_90 : decode cX11_bestCauses 90 = .ok (.iload_n 3, 1) := by decide +kernel
theorem dX11_bestCauses_91 : decode cX11_bestCauses 91 = .ok (.invokevirtual 231, 3) := by decide +kernel
theorem dX11_bestCauses_94 : decode cX11_bestCauses 94 = .ok (.ifCond .eq 5, 3) := by decide +kernel
theorem dX11_bestCauses_97 : decode cX11_bestCauses 97 = .ok (.iload_n 3, 1) := by decide +kernel
theorem dX11_bestCauses_98 : decode cX11_bestCauses 98 = .ok (.istore_n 2, 1) := by decide +kernel
theorem dX11_bestCauses_99 : decode cX11_bestCauses 99 = .ok (.iinc 3 1, 3) := by decide +kernel
theorem dX11_bestCauses_102 : decode cX11_bestCauses 102 = .ok (.goto (-63), 3) := by decide +kernel
theorem dX11_bestCauses_105 : decode cX11_bestCauses 105 = .ok (.iload_n 2, 1) := by decide +kernel
theorem dX11_bestCauses_106 : decode cX11_bestCauses 106 = .ok (.ireturn, 1) := by decide +kernel
theorem dX11_causes_0 : decode cX11_causes 0 = .ok (.aload_n 0, 1) := by decide +kernel
theorem dX11_causes_1 : decode cX11_causes 1 = .ok (.invokevirtual 234, 3) := by decide +kernel
theorem dX11_causes_4 : decode cX11_causes 4 = .ok (.istore_n 1, 1) := by decide +kernel
theorem dX11_causes_5 : decode cX11_causes 5 = .ok (.iload_n 1, 1) := by decide +kernel
theorem dX11_causes_6 : decode cX11_causes 6 = .ok (.ldc 152, 2) := by decide +kernel
theorem dX11_causes_8 : decode cX11_causes 8 = .ok (.if_icmp .ne 8, 3) := by decide +kernel
theorem dX11_causes_11 : decode cX11_causes 11 = .ok (.ldc 152, 2) := by decide +kernel
theorem dX11_causes_13 : decode cX11_causes 13 = .ok (.goto 7, 3) := by decide +kernel
theorem dX11_causes_16 : decode cX11_causes 16 = .ok (.iload_n 1, 1) := by decide +kernel
theorem dX11_causes_17 : decode cX11_causes 17 = .ok (.invokestatic 176, 3) := by decide +kernel
theorem dX11_causes_20 : decode cX11_causes 20 = .ok (.ireturn, 1) := by decide +kernel
theorem dX11_cause_0 : decode cX11_cause 0 = .ok (.aload_n 0, 1) := by decide +kernel
theorem dX11_cause_1 : decode cX11_cause 1 = .ok (.invokevirtual 234, 3) := by decide +kernel
theorem dX11_cause_4 : decode cX11_cause 4 = .ok (.istore_n 2, 1) := by decide +kernel
theorem dX11_cause_5 : decode cX11_cause 5 = .ok (.iload_n 1, 1) := by decide +kernel
theorem dX11_cause_6 : decode cX11_cause 6 = .ok (.istore_n 3, 1) := by decide +kernel
theorem dX11_cause_7 : decode cX11_cause 7 = .ok (.iconst 0, 1) := by decide +kernel
theorem dX11_cause_8 : decode cX11_cause 8 = .ok (.istore 4, 2) := by decide +kernel
theorem dX11_cause_10 : decode cX11_cause 10 = .ok (.iload 4, 2) := by decide +kernel
theorem dX11_cause_12 : decode cX11_cause 12 = .ok (.bipush 16, 2) := by decide +kernel
theorem dX11_cause_14 : decode cX11_cause 14 = .ok (.if_icmp .ge 39, 3) := by decide +kernel
theorem dX11_cause_17 : decode cX11_cause 17 = .ok (.iload_n 2, 1) := by decide +kernel
theorem dX11_cause_18 : decode cX11_cause 18 = .ok (.ldc 152, 2) := by decide +kernel
theorem dX11_cause_20 : decode cX11_cause 20 = .ok (.if_icmp .eq 33, 3) := by decide +kernel
theorem dX11_cause_23 : decode cX11_cause 23 = .ok (.iload_n 1, 1) := by decide +kernel
theorem dX11_cause_24 : decode cX11_cause 24 = .ok (.ifCond .lt 29, 3) := by decide +kernel
theorem dX11_cause_27 : decode cX11_cause 27 = .ok (.iload_n 2, 1) := by decide +kernel
theorem dX11_cause_28 : decode cX11_cause 28 = .ok (.iload 4, 2) := by decide +kernel
theorem dX11_cause_30 : decode cX11_cause 30 = .ok (.ishr, 1) := by decide +kernel
theorem dX11_cause_31 : decode cX11_cause 31 = .ok (.iconst 1, 1) := by decide +kernel
theorem dX11_cause_32 : decode cX11_cause 32 = .ok (.iand, 1) := by decide +kernel
theorem dX11_cause_33 : decode cX11_cause 33 = .ok (.iconst 1, 1) := by decide +kernel
theorem dX11_cause_34 : decode cX11_cause 34 = .ok (.if_icmp .ne 13, 3) := by decide +kernel
theorem dX11_cause_37 : decode cX11_cause 37 = .ok (.iload_n 3, 1) := by decide +kernel
theorem dX11_cause_38 : decode cX11_cause 38 = .ok (.ifCond .ne 6, 3) := by decide +kernel
theorem dX11_cause_41 : decode cX11_cause 41 = .ok (.iload 4, 2) := by decide +kernel
theorem dX11_cause_43 : decode cX11_cause 43 = .ok (.ireturn, 1) := by decide +kernel
theorem dX11_cause_44 : decode cX11_cause 44 = .ok (.iinc 3 (-1), 3) := by decide +kernel
theorem dX11_cause_47 : decode cX11_cause 47 = .ok (.iinc 4 1, 3) := by decide +kernel
theorem dX11_cause_50 : decode cX11_cause 50 = .ok (.goto (-40), 3) := by decide +kernel
theorem dX11_cause_53 : decode cX11_cause 53 = .ok (.ldc 152, 2) := by decide +kernel
theorem dX11_cause_55 : decode cX11_cause 55 = .ok (.ireturn, 1) := by decide +kernel
theorem dX11_isLoan_0 : decode cX11_isLoan 0 = .ok (.iload_n 1, 1) := by decide +kernel
theorem dX11_isLoan_1 : decode cX11_isLoan 1 = .ok (.i2l, 1) := by decide +kernel
theorem dX11_isLoan_2 : decode cX11_isLoan 2 = .ok (.lconst 0, 1) := by decide +kernel
theorem dX11_isLoan_3 : decode cX11_isLoan 3 = .ok (.aload_n 0, 1) := by decide +kernel
theorem dX11_isLoan_4 : decode cX11_isLoan 4 = .ok (.getfield 237, 3) := by decide +kernel
theorem dX11_isLoan_7 : decode cX11_isLoan 7 = .ok (.iconst 1, 1) := by decide +kernel
theorem dX11_isLoan_8 : decode cX11_isLoan 8 = .ok (.isub, 1) := by decide +kernel
theorem dX11_isLoan_9 : decode cX11_isLoan 9 = .ok (.i2l, 1) := by decide +kernel
theorem dX11_isLoan_10 : decode cX11_isLoan 10 = .ok (.invokestatic 126, 3) := by decide +kernel
theorem dX11_isLoan_13 : decode cX11_isLoan 13 = .ok (.ireturn, 1) := by decide +kernel
theorem dX11_nowOf_0 : decode cX11_nowOf 0 = .ok (.sipush 600, 3) := by decide +kernel
theorem dX11_nowOf_3 : decode cX11_nowOf 3 = .ok (.iload_n 1, 1) := by decide +kernel
theorem dX11_nowOf_4 : decode cX11_nowOf 4 = .ok (.imul, 1) := by decide +kernel
theorem dX11_nowOf_5 : decode cX11_nowOf 5 = .ok (.aload_n 0, 1) := by decide +kernel
theorem dX11_nowOf_6 : decode cX11_nowOf 6 = .ok (.getfield 240, 3) := by decide +kernel
theorem dX11_nowOf_9 : decode cX11_nowOf 9 = .ok (.iadd, 1) := by decide +kernel
theorem dX11_nowOf_10 : decode cX11_nowOf 10 = .ok (.ireturn, 1) := by decide +kernel
theorem dX11_loan_0 : decode cX11_loan 0 = .ok (.iload_n 1, 1) := by decide +kernel
theorem dX11_loan_1 : decode cX11_loan 1 = .ok (.i2l, 1) := by decide +kernel
theorem dX11_loan_2 : decode cX11_loan 2 = .ok (.lconst 1, 1) := by decide +kernel
theorem dX11_loan_3 : decode cX11_loan 3 = .ok (.ldc2_w 243, 3) := by decide +kernel
theorem dX11_loan_6 : decode cX11_loan 6 = .ok (.invokestatic 126, 3) := by decide +kernel
theorem dX11_loan_9 : decode cX11_loan 9 = .ok (.ifCond .eq 27, 3) := by decide +kernel
theorem dX11_loan_12 : decode cX11_loan 12 = .ok (.iload_n 2, 1) := by decide +kernel
theorem dX11_loan_13 : decode cX11_loan 13 = .ok (.i2l, 1) := by decide +kernel
theorem dX11_loan_14 : decode cX11_loan 14 = .ok (.lconst 0, 1) := by decide +kernel
theorem dX11_loan_15 : decode cX11_loan 15 = .ok (.ldc2_w 245, 3) := by decide +kernel
theorem dX11_loan_18 : decode cX11_loan 18 = .ok (.invokestatic 126, 3) := by decide +kernel
theorem dX11_loan_21 : decode cX11_loan 21 = .ok (.ifCond .eq 15, 3) := by decide +kernel
theorem dX11_loan_24 : decode cX11_loan 24 = .ok (.iload_n 3, 1) := by decide +kernel
theorem dX11_loan_25 : decode cX11_loan 25 = .ok (.i2l, 1) := by decide +kernel
theorem dX11_loan_26 : decode cX11_loan 26 = .ok (.lconst 1, 1) := by decide +kernel
theorem dX11_loan_27 : decode cX11_loan 27 = .ok (.ldc2_w 247, 3) := by decide +kernel
theorem dX11_loan_30 : decode cX11_loan 30 = .ok (.invokestatic 126, 3) := by decide +kernel
theorem dX11_loan_33 : decode cX11_loan 33 = .ok (.ifCond .ne 6, 3) := by decide +kernel
theorem dX11_loan_36 : decode cX11_loan 36 = .ok (.ldc 130, 2) := by decide +kernel
theorem dX11_loan_38 : decode cX11_loan 38 = .ok (.ireturn, 1) := by decide +kernel
theorem dX11_loan_39 : decode cX11_loan 39 = .ok (.aload_n 0, 1) := by decide +kernel
theorem dX11_loan_40 : decode cX11_loan 40 = .ok (.getfield 237, 3) := by decide +kernel
theorem dX11_loan_43 : decode cX11_loan 43 = .ok (.bipush 8, 2) := by decide +kernel
theorem dX11_loan_45 : decode cX11_loan 45 = .ok (.if_icmp .ne 6, 3) := by decide +kernel
theorem dX11_loan_48 : decode cX11_loan 48 = .ok (.ldc 138, 2) := by decide +kernel
theorem dX11_loan_50 : decode cX11_loan 50 = .ok (.ireturn, 1) := by decide +kernel
theorem dX11_loan_51 : decode cX11_loan 51 = .ok (.aload_n 0, 1) := by decide +kernel
theorem dX11_loan_52 : decode cX11_loan 52 = .ok (.getfield 84, 3) := by decide +kernel
theorem dX11_loan_55 : decode cX11_loan 55 = .ok (.aload_n 0, 1) := by decide +kernel
theorem dX11_loan_56 : decode cX11_loan 56 = .ok (.getfield 237, 3) := by decide +kernel
theorem dX11_loan_59 : decode cX11_loan 59 = .ok (.iload_n 2, 1) := by decide +kernel
theorem dX11_loan_60 : decode cX11_loan 60 = .ok (.iastore, 1) := by decide +kernel
theorem dX11_loan_61 : decode cX11_loan 61 = .ok (.aload_n 0, 1) := by decide +kernel
theorem dX11_loan_62 : decode cX11_loan 62 = .ok (.getfield 87, 3) := by decide +kernel
theorem dX11_loan_65 : decode cX11_loan 65 = .ok (.aload_n 0, 1) := by decide +kernel
theorem dX11_loan_66 : decode cX11_loan 66 = .ok (.getfield 237, 3) := by decide +kernel
theorem dX11_loan_69 : decode cX11_loan 69 = .ok (.iload_n 3, 1) := by decide +kernel
theorem dX11_loan_70 : decode cX11_loan 70 = .ok (.iastore, 1) := by decide +kernel
theorem dX11_loan_71 : decode cX11_loan 71 = .ok (.aload_n 0, 1) := by decide +kernel
theorem dX11_loan_72 : decode cX11_loan 72 = .ok (.getfield 90, 3) := by decide +kernel
theorem dX11_loan_75 : decode cX11_loan 75 = .ok (.aload_n 0, 1) := by decide +kernel
theorem dX11_loan_76 : decode cX11_loan 76 = .ok (.getfield 237, 3) := by decide +kernel
theorem dX11_loan_79 : decode cX11_loan 79 = .ok (.aload_n 0, 1) := by decide +kernel
theorem dX11_loan_80 : decode cX11_loan 80 = .ok (.getfield 240, 3) := by decide +kernel
theorem dX11_loan_83 : decode cX11_loan 83 = .ok (.iastore, 1) := by decide +kernel
theorem dX11_loan_84 : decode cX11_loan 84 = .ok (.aload_n 0, 1) := by decide +kernel
theorem dX11_loan_85 : decode cX11_loan 85 = .ok (.getfield 93, 3) := by decide +kernel
theorem dX11_loan_88 : decode cX11_loan 88 = .ok (.aload_n 0, 1) := by decide +kernel
theorem dX11_loan_89 : decode cX11_loan 89 = .ok (.getfield 237, 3) := by decide +kernel
theorem dX11_loan_92 : decode cX11_loan 92 = .ok (.iconst 1, 1) := by decide +kernel
theorem dX11_loan_93 : decode cX11_loan 93 = .ok (.bastore, 1) := by decide +kernel
theorem dX11_loan_94 : decode cX11_loan 94 = .ok (.aload_n 0, 1) := by decide +kernel
theorem dX11_loan_95 : decode cX11_loan 95 = .ok (.getfield 96, 3) := by decide +kernel
theorem dX11_loan_98 : decode cX11_loan 98 = .ok (.aload_n 0, 1) := by decide +kernel
theorem dX11_loan_99 : decode cX11_loan 99 = .ok (.aload_n 0, 1) := by decide +kernel
theorem dX11_loan_100 : decode cX11_loan 100 = .ok (.getfield 237, 3) := by decide +kernel
theorem dX11_loan_103 : decode cX11_loan 103 = .ok (.invokevirtual 249, 3) := by decide +kernel
theorem dX11_loan_106 : decode cX11_loan 106 = .ok (.iload_n 1, 1) := by decide +kernel
theorem dX11_loan_107 : decode cX11_loan 107 = .ok (.i2l, 1) := by decide +kernel
theorem dX11_loan_108 : decode cX11_loan 108 = .ok (.lastore, 1) := by decide +kernel
theorem dX11_loan_109 : decode cX11_loan 109 = .ok (.aload_n 0, 1) := by decide +kernel
theorem dX11_loan_110 : decode cX11_loan 110 = .ok (.getfield 103, 3) := by decide +kernel
theorem dX11_loan_113 : decode cX11_loan 113 = .ok (.aload_n 0, 1) := by decide +kernel
theorem dX11_loan_114 : decode cX11_loan 114 = .ok (.aload_n 0, 1) := by decide +kernel
theorem dX11_loan_115 : decode cX11_loan 115 = .ok (.getfield 237, 3) := by decide +kernel
theorem dX11_loan_118 : decode cX11_loan 118 = .ok (.invokevirtual 249, 3) := by decide +kernel
theorem dX11_loan_121 : decode cX11_loan 121 = .ok (.iconst 1, 1) := by decide +kernel
theorem dX11_loan_122 : decode cX11_loan 122 = .ok (.iastore, 1) := by decide +kernel
theorem dX11_loan_123 : decode cX11_loan 123 = .ok (.aload_n 0, 1) := by decide +kernel
theorem dX11_loan_124 : decode cX11_loan 124 = .ok (.dup, 1) := by decide +kernel
theorem dX11_loan_125 : decode cX11_loan 125 = .ok (.getfield 237, 3) := by decide +kernel
theorem dX11_loan_128 : decode cX11_loan 128 = .ok (.iconst 1, 1) := by decide +kernel
theorem dX11_loan_129 : decode cX11_loan 129 = .ok (.iadd, 1) := by decide +kernel
theorem dX11_loan_130 : decode cX11_loan 130 = .ok (.putfield 237, 3) := by decide +kernel
theorem dX11_loan_133 : decode cX11_loan 133 = .ok (.aload_n 0, 1) := by decide +kernel
theorem dX11_loan_134 : decode cX11_loan 134 = .ok (.getfield 237, 3) := by decide +kernel
theorem dX11_loan_137 : decode cX11_loan 137 = .ok (.iconst 1, 1) := by decide +kernel
theorem dX11_loan_138 : decode cX11_loan 138 = .ok (.isub, 1) := by decide +kernel
theorem dX11_loan_139 : decode cX11_loan 139 = .ok (.ireturn, 1) := by decide +kernel
theorem dX11_goMonth_0 : decode cX11_goMonth 0 = .ok (.aload_n 0, 1) := by decide +kernel
theorem dX11_goMonth_1 : decode cX11_goMonth 1 = .ok (.dup, 1) := by decide +kernel
theorem dX11_goMonth_2 : decode cX11_goMonth 2 = .ok (.getfield 252, 3) := by decide +kernel
theorem dX11_goMonth_5 : decode cX11_goMonth 5 = .ok (.aload_n 0, 1) := by decide +kernel
theorem dX11_goMonth_6 : decode cX11_goMonth 6 = .ok (.getfield 252, 3) := by decide +kernel
theorem dX11_goMonth_9 : decode cX11_goMonth 9 = .ok (.ldc2_w 256, 3) := by decide +kernel
theorem dX11_goMonth_12 : decode cX11_goMonth 12 = .ok (.ldiv, 1) := by decide +kernel
theorem dX11_goMonth_13 : decode cX11_goMonth 13 = .ok (.aload_n 0, 1) := by decide +kernel
theorem dX11_goMonth_14 : decode cX11_goMonth 14 = .ok (.getfield 84, 3) := by decide +kernel
theorem dX11_goMonth_17 : decode cX11_goMonth 17 = .ok (.iload_n 1, 1) := by decide +kernel
theorem dX11_goMonth_18 : decode cX11_goMonth 18 = .ok (.iaload, 1) := by decide +kernel
theorem dX11_goMonth_19 : decode cX11_goMonth 19 = .ok (.i2l, 1) := by decide +kernel
theorem dX11_goMonth_20 : decode cX11_goMonth 20 = .ok (.lmul, 1) := by decide +kernel
theorem dX11_goMonth_21 : decode cX11_goMonth 21 = .ok (.aload_n 0, 1) := by decide +kernel
theorem dX11_goMonth_22 : decode cX11_goMonth 22 = .ok (.getfield 252, 3) := by decide +kernel
theorem dX11_goMonth_25 : decode cX11_goMonth 25 = .ok (.ldc2_w 256, 3) := by decide +kernel
theorem dX11_goMonth_28 : decode cX11_goMonth 28 = .ok (.lrem, 1) := by decide +kernel
theorem dX11_goMonth_29 : decode cX11_goMonth 29 = .ok (.aload_n 0, 1) := by decide +kernel
theorem dX11_goMonth_30 : decode cX11_goMonth 30 = .ok (.getfield 84, 3) := by decide +kernel
theorem dX11_goMonth_33 : decode cX11_goMonth 33 = .ok (.iload_n 1, 1) := by decide +kernel
theorem dX11_goMonth_34 : decode cX11_goMonth 34 = .ok (.iaload, 1) := by decide +kernel
theorem dX11_goMonth_35 : decode cX11_goMonth 35 = .ok (.i2l, 1) := by decide +kernel
theorem dX11_goMonth_36 : decode cX11_goMonth 36 = .ok (.lmul, 1) := by decide +kernel
theorem dX11_goMonth_37 : decode cX11_goMonth 37 = .ok (.ldc2_w 256, 3) := by decide +kernel
theorem dX11_goMonth_40 : decode cX11_goMonth 40 = .ok (.ldiv, 1) := by decide +kernel
theorem dX11_goMonth_41 : decode cX11_goMonth 41 = .ok (.ladd, 1) := by decide +kernel
theorem dX11_goMonth_42 : decode cX11_goMonth 42 = .ok (.ladd, 1) := by decide +kernel
theorem dX11_goMonth_43 : decode cX11_goMonth 43 = .ok (.putfield 252, 3) := by decide +kernel
theorem dX11_goMonth_46 : decode cX11_goMonth 46 = .ok (.aload_n 0, 1) := by decide +kernel
theorem dX11_goMonth_47 : decode cX11_goMonth 47 = .ok (.dup, 1) := by decide +kernel
theorem dX11_goMonth_48 : decode cX11_goMonth 48 = .ok (.getfield 258, 3) := by decide +kernel
theorem dX11_goMonth_51 : decode cX11_goMonth 51 = .ok (.aload_n 0, 1) := by decide +kernel
theorem dX11_goMonth_52 : decode cX11_goMonth 52 = .ok (.getfield 252, 3) := by decide +kernel
theorem dX11_goMonth_55 : decode cX11_goMonth 55 = .ok (.lconst 0, 1) := by decide +kernel
theorem dX11_goMonth_56 : decode cX11_goMonth 56 = .ok (.lcmp, 1) := by decide +kernel
theorem dX11_goMonth_57 : decode cX11_goMonth 57 = .ok (.ifCond .le 13, 3) := by decide +kernel
theorem dX11_goMonth_60 : decode cX11_goMonth 60 = .ok (.aload_n 0, 1) := by decide +kernel
theorem dX11_goMonth_61 : decode cX11_goMonth 61 = .ok (.getfield 87, 3) := by decide +kernel
theorem dX11_goMonth_64 : decode cX11_goMonth 64 = .ok (.iload_n 1, 1) := by decide +kernel
theorem dX11_goMonth_65 : decode cX11_goMonth 65 = .ok (.iaload, 1) := by decide +kernel
theorem dX11_goMonth_66 : decode cX11_goMonth 66 = .ok (.i2l, 1) := by decide +kernel
theorem dX11_goMonth_67 : decode cX11_goMonth 67 = .ok (.goto 4, 3) := by decide +kernel
theorem dX11_goMonth_70 : decode cX11_goMonth 70 = .ok (.lconst 0, 1) := by decide +kernel
theorem dX11_goMonth_71 : decode cX11_goMonth 71 = .ok (.ladd, 1) := by decide +kernel
theorem dX11_goMonth_72 : decode cX11_goMonth 72 = .ok (.putfield 258, 3) := by decide +kernel
theorem dX11_goMonth_75 : decode cX11_goMonth 75 = .ok (.aload_n 0, 1) := by decide +kernel
theorem dX11_goMonth_76 : decode cX11_goMonth 76 = .ok (.aload_n 0, 1) := by decide +kernel
theorem dX11_goMonth_77 : decode cX11_goMonth 77 = .ok (.getfield 258, 3) := by decide +kernel
theorem dX11_goMonth_80 : decode cX11_goMonth 80 = .ok (.aload_n 0, 1) := by decide +kernel
theorem dX11_goMonth_81 : decode cX11_goMonth 81 = .ok (.getfield 252, 3) := by decide +kernel
theorem dX11_goMonth_84 : decode cX11_goMonth 84 = .ok (.lcmp, 1) := by decide +kernel
theorem dX11_goMonth_85 : decode cX11_goMonth 85 = .ok (.ifCond .le 10, 3) := by decide +kernel
theorem dX11_goMonth_88 : decode cX11_goMonth 88 = .ok (.aload_n 0, 1) := by decide +kernel
theorem dX11_goMonth_89 : decode cX11_goMonth 89 = .ok (.getfield 252, 3) := by decide +kernel
theorem dX11_goMonth_92 : decode cX11_goMonth 92 = .ok (.goto 7, 3) := by decide +kernel
theorem dX11_goMonth_95 : decode cX11_goMonth 95 = .ok (.aload_n 0, 1) := by decide +kernel
theorem dX11_goMonth_96 : decode cX11_goMonth 96 = .ok (.getfield 258, 3) := by decide +kernel
theorem dX11_goMonth_99 : decode cX11_goMonth 99 = .ok (.putfield 258, 3) := by decide +kernel
theorem dX11_goMonth_102 : decode cX11_goMonth 102 = .ok (.return_, 1) := by decide +kernel
theorem dX11_pass_0 : decode cX11_pass 0 = .ok (.iload_n 1, 1) := by decide +kernel
theorem dX11_pass_1 : decode cX11_pass 1 = .ok (.i2l, 1) := by decide +kernel
theorem dX11_pass_2 : decode cX11_pass 2 = .ok (.lconst 1, 1) := by decide +kernel
theorem dX11_pass_3 : decode cX11_pass 3 = .ok (.ldc2_w 261, 3) := by decide +kernel
theorem dX11_pass_6 : decode cX11_pass 6 = .ok (.invokestatic 126, 3) := by decide +kernel
theorem dX11_pass_9 : decode cX11_pass 9 = .ok (.ifCond .ne 6, 3) := by decide +kernel
theorem dX11_pass_12 : decode cX11_pass 12 = .ok (.ldc 130, 2) := by decide +kernel
theorem dX11_pass_14 : decode cX11_pass 14 = .ok (.ireturn, 1) := by decide +kernel
theorem dX11_pass_15 : decode cX11_pass 15 = .ok (.aload_n 0, 1) := by decide +kernel
theorem dX11_pass_16 : decode cX11_pass 16 = .ok (.getfield 240, 3) := by decide +kernel
theorem dX11_pass_19 : decode cX11_pass 19 = .ok (.iload_n 1, 1) := by decide +kernel
theorem dX11_pass_20 : decode cX11_pass 20 = .ok (.iadd, 1) := by decide +kernel
theorem dX11_pass_21 : decode cX11_pass 21 = .ok (.sipush 599, 3) := by decide +kernel
theorem dX11_pass_24 : decode cX11_pass 24 = .ok (.if_icmp .le 6, 3) := by decide +kernel
theorem dX11_pass_27 : decode cX11_pass 27 = .ok (.ldc 138, 2) := by decide +kernel
theorem dX11_pass_29 : decode cX11_pass 29 = .ok (.ireturn, 1) := by decide +kernel
theorem dX11_pass_30 : decode cX11_pass 30 = .ok (.iconst 0, 1) := by decide +kernel
theorem dX11_pass_31 : decode cX11_pass 31 = .ok (.istore_n 2, 1) := by decide +kernel
theorem dX11_pass_32 : decode cX11_pass 32 = .ok (.iload_n 2, 1) := by decide +kernel
theorem dX11_pass_33 : decode cX11_pass 33 = .ok (.iload_n 1, 1) := by decide +kernel
theorem dX11_pass_34 : decode cX11_pass 34 = .ok (.if_icmp .ge 124, 3) := by decide +kernel
theorem dX11_pass_37 : decode cX11_pass 37 = .ok (.aload_n 0, 1) := by decide +kernel
theorem dX11_pass_38 : decode cX11_pass 38 = .ok (.dup, 1) := by decide +kernel
theorem dX11_pass_39 : decode cX11_pass 39 = .ok (.getfield 240, 3) := by decide +kernel
theorem dX11_pass_42 : decode cX11_pass 42 = .ok (.iconst 1, 1) := by decide +kernel
theorem dX11_pass_43 : decode cX11_pass 43 = .ok (.iadd, 1) := by decide +kernel
theorem dX11_pass_44 : decode cX11_pass 44 = .ok (.putfield 240, 3) := by decide +kernel
theorem dX11_pass_47 : decode cX11_pass 47 = .ok (.iconst 0, 1) := by decide +kernel
theorem dX11_pass_48 : decode cX11_pass 48 = .ok (.istore_n 3, 1) := by decide +kernel
theorem dX11_pass_49 : decode cX11_pass 49 = .ok (.iload_n 3, 1) := by decide +kernel
theorem dX11_pass_50 : decode cX11_pass 50 = .ok (.aload_n 0, 1) := by decide +kernel
theorem dX11_pass_51 : decode cX11_pass 51 = .ok (.getfield 237, 3) := by decide +kernel
theorem dX11_pass_54 : decode cX11_pass 54 = .ok (.if_icmp .ge 98, 3) := by decide +kernel
theorem dX11_pass_57 : decode cX11_pass 57 = .ok (.aload_n 0, 1) := by decide +kernel
theorem dX11_pass_58 : decode cX11_pass 58 = .ok (.iload_n 3, 1) := by decide +kernel
theorem dX11_pass_59 : decode cX11_pass 59 = .ok (.invokevirtual 249, 3) := by decide +kernel
theorem dX11_pass_62 : decode cX11_pass 62 = .ok (.istore 4, 2) := by decide +kernel
theorem dX11_pass_64 : decode cX11_pass 64 = .ok (.aload_n 0, 1) := by decide +kernel
theorem dX11_pass_65 : decode cX11_pass 65 = .ok (.aload_n 0, 1) := by decide +kernel
theorem dX11_pass_66 : decode cX11_pass 66 = .ok (.getfield 96, 3) := by decide +kernel
theorem dX11_pass_69 : decode cX11_pass 69 = .ok (.iload 4, 2) := by decide +kernel
theorem dX11_pass_71 : decode cX11_pass 71 = .ok (.iconst 1, 1) := by decide +kernel
theorem dX11_pass_72 : decode cX11_pass 72 = .ok (.isub, 1) := by decide +kernel
theorem dX11_pass_73 : decode cX11_pass 73 = .ok (.laload, 1) := by decide +kernel
theorem dX11_pass_74 : decode cX11_pass 74 = .ok (.putfield 252, 3) := by decide +kernel
theorem dX11_pass_77 : decode cX11_pass 77 = .ok (.aload_n 0, 1) := by decide +kernel
theorem dX11_pass_78 : decode cX11_pass 78 = .ok (.aload_n 0, 1) := by decide +kernel
theorem dX11_pass_79 : decode cX11_pass 79 = .ok (.getfield 100, 3) := by decide +kernel
theorem dX11_pass_82 : decode cX11_pass 82 = .ok (.iload 4, 2) := by decide +kernel
theorem dX11_pass_84 : decode cX11_pass 84 = .ok (.iconst 1, 1) := by decide +kernel
theorem dX11_pass_85 : decode cX11_pass 85 = .ok (.isub, 1) := by decide +kernel
theorem dX11_pass_86 : decode cX11_pass 86 = .ok (.laload, 1) := by decide +kernel
theorem dX11_pass_87 : decode cX11_pass 87 = .ok (.putfield 258, 3) := by decide +kernel
theorem dX11_pass_90 : decode cX11_pass 90 = .ok (.aload_n 0, 1) := by decide +kernel
theorem dX11_pass_91 : decode cX11_pass 91 = .ok (.getfield 103, 3) := by decide +kernel
theorem dX11_pass_94 : decode cX11_pass 94 = .ok (.iload 4, 2) := by decide +kernel
theorem dX11_pass_96 : decode cX11_pass 96 = .ok (.iconst 1, 1) := by decide +kernel
theorem dX11_pass_97 : decode cX11_pass 97 = .ok (.isub, 1) := by decide +kernel
theorem dX11_pass_98 : decode cX11_pass 98 = .ok (.iaload, 1) := by decide +kernel
theorem dX11_pass_99 : decode cX11_pass 99 = .ok (.iconst 1, 1) := by decide +kernel
theorem dX11_pass_100 : decode cX11_pass 100 = .ok (.if_icmp .ne 8, 3) := by decide +kernel
theorem dX11_pass_103 : decode cX11_pass 103 = .ok (.aload_n 0, 1) := by decide +kernel
theorem dX11_pass_104 : decode cX11_pass 104 = .ok (.iload_n 3, 1) := by decide +kernel
theorem dX11_pass_105 : decode cX11_pass 105 = .ok (.invokevirtual 263, 3) := by decide +kernel
theorem dX11_pass_108 : decode cX11_pass 108 = .ok (.aload_n 0, 1) := by decide +kernel
theorem dX11_pass_109 : decode cX11_pass 109 = .ok (.getfield 96, 3) := by decide +kernel
theorem dX11_pass_112 : decode cX11_pass 112 = .ok (.iload 4, 2) := by decide +kernel
theorem dX11_pass_114 : decode cX11_pass 114 = .ok (.aload_n 0, 1) := by decide +kernel
theorem dX11_pass_115 : decode cX11_pass 115 = .ok (.getfield 252, 3) := by decide +kernel
theorem dX11_pass_118 : decode cX11_pass 118 = .ok (.lastore, 1) := by decide +kernel
theorem dX11_pass_119 : decode cX11_pass 119 = .ok (.aload_n 0, 1) := by decide +kernel
theorem dX11_pass_120 : decode cX11_pass 120 = .ok (.getfield 100, 3) := by decide +kernel
theorem dX11_pass_123 : decode cX11_pass 123 = .ok (.iload 4, 2) := by decide +kernel
theorem dX11_pass_125 : decode cX11_pass 125 = .ok (.aload_n 0, 1) := by decide +kernel
theorem dX11_pass_126 : decode cX11_pass 126 = .ok (.getfield 258, 3) := by decide +kernel
theorem dX11_pass_129 : decode cX11_pass 129 = .ok (.lastore, 1) := by decide +kernel
theorem dX11_pass_130 : decode cX11_pass 130 = .ok (.aload_n 0, 1) := by decide +kernel
theorem dX11_pass_131 : decode cX11_pass 131 = .ok (.getfield 103, 3) := by decide +kernel
theorem dX11_pass_134 : decode cX11_pass 134 = .ok (.iload 4, 2) := by decide +kernel
theorem dX11_pass_136 : decode cX11_pass 136 = .ok (.aload_n 0, 1) := by decide +kernel
theorem dX11_pass_137 : decode cX11_pass 137 = .ok (.getfield 103, 3) := by decide +kernel
theorem dX11_pass_140 : decode cX11_pass 140 = .ok (.iload 4, 2) := by decide +kernel
theorem dX11_pass_142 : decode cX11_pass 142 = .ok (.iconst 1, 1) := by decide +kernel
theorem dX11_pass_143 : decode cX11_pass 143 = .ok (.isub, 1) := by decide +kernel
theorem dX11_pass_144 : decode cX11_pass 144 = .ok (.iaload, 1) := by decide +kernel
theorem dX11_pass_145 : decode cX11_pass 145 = .ok (.iastore, 1) := by decide +kernel
theorem dX11_pass_146 : decode cX11_pass 146 = .ok (.iinc 3 1, 3) := by decide +kernel
theorem dX11_pass_149 : decode cX11_pass 149 = .ok (.goto (-100), 3) := by decide +kernel
theorem dX11_pass_152 : decode cX11_pass 152 = .ok (.iinc 2 1, 3) := by decide +kernel
theorem dX11_pass_155 : decode cX11_pass 155 = .ok (.goto (-123), 3) := by decide +kernel
theorem dX11_pass_158 : decode cX11_pass 158 = .ok (.aload_n 0, 1) := by decide +kernel
theorem dX11_pass_159 : decode cX11_pass 159 = .ok (.getfield 240, 3) := by decide +kernel
theorem dX11_pass_162 : decode cX11_pass 162 = .ok (.ireturn, 1) := by decide +kernel
theorem dX11_pay_0 : decode cX11_pay 0 = .ok (.aload_n 0, 1) := by decide +kernel
theorem dX11_pay_1 : decode cX11_pay 1 = .ok (.iload_n 1, 1) := by decide +kernel
theorem dX11_pay_2 : decode cX11_pay 2 = .ok (.invokevirtual 267, 3) := by decide +kernel
theorem dX11_pay_5 : decode cX11_pay 5 = .ok (.ifCond .ne 6, 3) := by decide +kernel
theorem dX11_pay_8 : decode cX11_pay 8 = .ok (.ldc 143, 2) := by decide +kernel
theorem dX11_pay_10 : decode cX11_pay 10 = .ok (.ireturn, 1) := by decide +kernel
theorem dX11_pay_11 : decode cX11_pay 11 = .ok (.iload_n 2, 1) := by decide +kernel
theorem dX11_pay_12 : decode cX11_pay 12 = .ok (.i2l, 1) := by decide +kernel
theorem dX11_pay_13 : decode cX11_pay 13 = .ok (.lconst 1, 1) := by decide +kernel
theorem dX11_pay_14 : decode cX11_pay 14 = .ok (.ldc2_w 243, 3) := by decide +kernel
theorem dX11_pay_17 : decode cX11_pay 17 = .ok (.invokestatic 126, 3) := by decide +kernel
theorem dX11_pay_20 : decode cX11_pay 20 = .ok (.ifCond .ne 6, 3) := by decide +kernel
theorem dX11_pay_23 : decode cX11_pay 23 = .ok (.ldc 130, 2) := by decide +kernel
theorem dX11_pay_25 : decode cX11_pay 25 = .ok (.ireturn, 1) := by decide +kernel
theorem dX11_pay_26 : decode cX11_pay 26 = .ok (.aload_n 0, 1) := by decide +kernel
theorem dX11_pay_27 : decode cX11_pay 27 = .ok (.iload_n 1, 1) := by decide +kernel
theorem dX11_pay_28 : decode cX11_pay 28 = .ok (.invokevirtual 249, 3) := by decide +kernel
theorem dX11_pay_31 : decode cX11_pay 31 = .ok (.istore_n 3, 1) := by decide +kernel
theorem dX11_pay_32 : decode cX11_pay 32 = .ok (.aload_n 0, 1) := by decide +kernel
theorem dX11_pay_33 : decode cX11_pay 33 = .ok (.getfield 103, 3) := by decide +kernel
theorem dX11_pay_36 : decode cX11_pay 36 = .ok (.iload_n 3, 1) := by decide +kernel
theorem dX11_pay_37 : decode cX11_pay 37 = .ok (.iaload, 1) := by decide +kernel
theorem dX11_pay_38 : decode cX11_pay 38 = .ok (.iconst 1, 1) := by decide +kernel
theorem dX11_pay_39 : decode cX11_pay 39 = .ok (.if_icmp .eq 6, 3) := by decide +kernel
theorem dX11_pay_42 : decode cX11_pay 42 = .ok (.ldc 144, 2) := by decide +kernel
theorem dX11_pay_44 : decode cX11_pay 44 = .ok (.ireturn, 1) := by decide +kernel
theorem dX11_pay_45 : decode cX11_pay 45 = .ok (.iload_n 2, 1) := by decide +kernel
theorem dX11_pay_46 : decode cX11_pay 46 = .ok (.i2l, 1) := by decide +kernel
theorem dX11_pay_47 : decode cX11_pay 47 = .ok (.aload_n 0, 1) := by decide +kernel
theorem dX11_pay_48 : decode cX11_pay 48 = .ok (.getfield 96, 3) := by decide +kernel
theorem dX11_pay_51 : decode cX11_pay 51 = .ok (.iload_n 3, 1) := by decide +kernel
theorem dX11_pay_52 : decode cX11_pay 52 = .ok (.laload, 1) := by decide +kernel
theorem dX11_pay_53 : decode cX11_pay 53 = .ok (.lcmp, 1) := by decide +kernel
theorem dX11_pay_54 : decode cX11_pay 54 = .ok (.ifCond .ge 7, 3) := by decide +kernel
theorem dX11_pay_57 : decode cX11_pay 57 = .ok (.iload_n 2, 1) := by decide +kernel
theorem dX11_pay_58 : decode cX11_pay 58 = .ok (.goto 10, 3) := by decide +kernel
theorem dX11_pay_61 : decode cX11_pay 61 = .ok (.aload_n 0, 1) := by decide +kernel
theorem dX11_pay_62 : decode cX11_pay 62 = .ok (.getfield 96, 3) := by decide +kernel
theorem dX11_pay_65 : decode cX11_pay 65 = .ok (.iload_n 3, 1) := by decide +kernel
theorem dX11_pay_66 : decode cX11_pay 66 = .ok (.laload, 1) := by decide +kernel
theorem dX11_pay_67 : decode cX11_pay 67 = .ok (.l2i, 1) := by decide +kernel
theorem dX11_pay_68 : decode cX11_pay 68 = .ok (.istore 4, 2) := by decide +kernel
theorem dX11_pay_70 : decode cX11_pay 70 = .ok (.aload_n 0, 1) := by decide +kernel
theorem dX11_pay_71 : decode cX11_pay 71 = .ok (.getfield 96, 3) := by decide +kernel
theorem dX11_pay_74 : decode cX11_pay 74 = .ok (.iload_n 3, 1) := by decide +kernel
theorem dX11_pay_75 : decode cX11_pay 75 = .ok (.dup2, 1) := by decide +kernel
theorem dX11_pay_76 : decode cX11_pay 76 = .ok (.laload, 1) := by decide +kernel
theorem dX11_pay_77 : decode cX11_pay 77 = .ok (.iload 4, 2) := by decide +kernel
theorem dX11_pay_79 : decode cX11_pay 79 = .ok (.i2l, 1) := by decide +kernel
theorem dX11_pay_80 : decode cX11_pay 80 = .ok (.lsub, 1) := by decide +kernel
theorem dX11_pay_81 : decode cX11_pay 81 = .ok (.lastore, 1) := by decide +kernel
theorem dX11_pay_82 : decode cX11_pay 82 = .ok (.aload_n 0, 1) := by decide +kernel
theorem dX11_pay_83 : decode cX11_pay 83 = .ok (.getfield 100, 3) := by decide +kernel
theorem dX11_pay_86 : decode cX11_pay 86 = .ok (.iload_n 3, 1) := by decide +kernel
theorem dX11_pay_87 : decode cX11_pay 87 = .ok (.aload_n 0, 1) := by decide +kernel
theorem dX11_pay_88 : decode cX11_pay 88 = .ok (.getfield 100, 3) := by decide +kernel
theorem dX11_pay_91 : decode cX11_pay 91 = .ok (.iload_n 3, 1) := by decide +kernel
theorem dX11_pay_92 : decode cX11_pay 92 = .ok (.laload, 1) := by decide +kernel
theorem dX11_pay_93 : decode cX11_pay 93 = .ok (.iload 4, 2) := by decide +kernel
theorem dX11_pay_95 : decode cX11_pay 95 = .ok (.i2l, 1) := by decide +kernel
theorem dX11_pay_96 : decode cX11_pay 96 = .ok (.lcmp, 1) := by decide +kernel
theorem dX11_pay_97 : decode cX11_pay 97 = .ok (.ifCond .ge 7, 3) := by decide +kernel
theorem dX11_pay_100 : decode cX11_pay 100 = .ok (.lconst 0, 1) := by decide +kernel
theorem dX11_pay_101 : decode cX11_pay 101 = .ok (.goto 13, 3) := by decide +kernel
theorem dX11_pay_104 : decode cX11_pay 104 = .ok (.aload_n 0, 1) := by decide +kernel
theorem dX11_pay_105 : decode cX11_pay 105 = .ok (.getfield 100, 3) := by decide +kernel
theorem dX11_pay_108 : decode cX11_pay 108 = .ok (.iload_n 3, 1) := by decide +kernel
theorem dX11_pay_109 : decode cX11_pay 109 = .ok (.laload, 1) := by decide +kernel
theorem dX11_pay_110 : decode cX11_pay 110 = .ok (.iload 4, 2) := by decide +kernel
theorem dX11_pay_112 : decode cX11_pay 112 = .ok (.i2l, 1) := by decide +kernel
theorem dX11_pay_113 : decode cX11_pay 113 = .ok (.lsub, 1) := by decide +kernel
theorem dX11_pay_114 : decode cX11_pay 114 = .ok (.lastore, 1) := by decide +kernel
theorem dX11_pay_115 : decode cX11_pay 115 = .ok (.aload_n 0, 1) := by decide +kernel
theorem dX11_pay_116 : decode cX11_pay 116 = .ok (.getfield 103, 3) := by decide +kernel
theorem dX11_pay_119 : decode cX11_pay 119 = .ok (.iload_n 3, 1) := by decide +kernel
theorem dX11_pay_120 : decode cX11_pay 120 = .ok (.aload_n 0, 1) := by decide +kernel
theorem dX11_pay_121 : decode cX11_pay 121 = .ok (.getfield 96, 3) := by decide +kernel
theorem dX11_pay_124 : decode cX11_pay 124 = .ok (.iload_n 3, 1) := by decide +kernel
theorem dX11_pay_125 : decode cX11_pay 125 = .ok (.laload, 1) := by decide +kernel
theorem dX11_pay_126 : decode cX11_pay 126 = .ok (.lconst 0, 1) := by decide +kernel
theorem dX11_pay_127 : decode cX11_pay 127 = .ok (.lcmp, 1) := by decide +kernel
theorem dX11_pay_128 : decode cX11_pay 128 = .ok (.ifCond .ne 7, 3) := by decide +kernel
theorem dX11_pay_131 : decode cX11_pay 131 = .ok (.iconst 2, 1) := by decide +kernel
theorem dX11_pay_132 : decode cX11_pay 132 = .ok (.goto 4, 3) := by decide +kernel
theorem dX11_pay_135 : decode cX11_pay 135 = .ok (.iconst 1, 1) := by decide +kernel
theorem dX11_pay_136 : decode cX11_pay 136 = .ok (.iastore, 1) := by decide +kernel
theorem dX11_pay_137 : decode cX11_pay 137 = .ok (.iload 4, 2) := by decide +kernel
theorem dX11_pay_139 : decode cX11_pay 139 = .ok (.ireturn, 1) := by decide +kernel
theorem dX11_work_0 : decode cX11_work 0 = .ok (.aload_n 0, 1) := by decide +kernel
theorem dX11_work_1 : decode cX11_work 1 = .ok (.iload_n 1, 1) := by decide +kernel
theorem dX11_work_2 : decode cX11_work 2 = .ok (.invokevirtual 267, 3) := by decide +kernel
theorem dX11_work_5 : decode cX11_work 5 = .ok (.ifCond .ne 6, 3) := by decide +kernel
theorem dX11_work_8 : decode cX11_work 8 = .ok (.ldc 143, 2) := by decide +kernel
theorem dX11_work_10 : decode cX11_work 10 = .ok (.ireturn, 1) := by decide +kernel
theorem dX11_work_11 : decode cX11_work 11 = .ok (.aload_n 0, 1) := by decide +kernel
theorem dX11_work_12 : decode cX11_work 12 = .ok (.getfield 93, 3) := by decide +kernel
theorem dX11_work_15 : decode cX11_work 15 = .ok (.iload_n 1, 1) := by decide +kernel
theorem dX11_work_16 : decode cX11_work 16 = .ok (.baload, 1) := by decide +kernel
theorem dX11_work_17 : decode cX11_work 17 = .ok (.ifCond .eq 7, 3) := by decide +kernel
theorem dX11_work_20 : decode cX11_work 20 = .ok (.iconst 1, 1) := by decide +kernel
theorem dX11_work_21 : decode cX11_work 21 = .ok (.goto 4, 3) := by decide +kernel
theorem dX11_work_24 : decode cX11_work 24 = .ok (.iconst 0, 1) := by decide +kernel
theorem dX11_work_25 : decode cX11_work 25 = .ok (.istore_n 3, 1) := by decide +kernel
theorem dX11_work_26 : decode cX11_work 26 = .ok (.aload_n 0, 1) := by decide +kernel
theorem dX11_work_27 : decode cX11_work 27 = .ok (.getfield 93, 3) := by decide +kernel
theorem dX11_work_30 : decode cX11_work 30 = .ok (.iload_n 1, 1) := by decide +kernel
theorem dX11_work_31 : decode cX11_work 31 = .ok (.iload_n 2, 1) := by decide +kernel
theorem dX11_work_32 : decode cX11_work 32 = .ok (.bastore, 1) := by decide +kernel
theorem dX11_work_33 : decode cX11_work 33 = .ok (.iload_n 3, 1) := by decide +kernel
theorem dX11_work_34 : decode cX11_work 34 = .ok (.ireturn, 1) := by decide +kernel
