theorem dX3_init_0 : decode cX3_init 0 = .ok (.aload_n 0, 1) := by decide +kernel
theorem dX3_init_1 : decode cX3_init 1 = .ok (.invokespecial 3, 3) := by decide +kernel
theorem dX3_init_4 : decode cX3_init 4 = .ok (.aload_n 0, 1) := by decide +kernel
theorem dX3_init_5 : decode cX3_init 5 = .ok (.sipush 640, 3) := by decide +kernel
theorem dX3_init_8 : decode cX3_init 8 = .ok (.newarray .byte, 2) := by decide +kernel
theorem dX3_init_10 : decode cX3_init 10 = .ok (.putfield 9, 3) := by decide +kernel
theorem dX3_init_13 : decode cX3_init 13 = .ok (.return_, 1) := by decide +kernel
theorem dX3_put_0 : decode cX3_put 0 = .ok (.bipush 24, 2) := by decide +kernel
theorem dX3_put_2 : decode cX3_put 2 = .ok (.istore_n 2, 1) := by decide +kernel
theorem dX3_put_3 : decode cX3_put 3 = .ok (.iload_n 2, 1) := by decide +kernel
theorem dX3_put_4 : decode cX3_put 4 = .ok (.ifCond .lt 42, 3) := by decide +kernel
theorem dX3_put_7 : decode cX3_put 7 = .ok (.aload_n 0, 1) := by decide +kernel
theorem dX3_put_8 : decode cX3_put 8 = .ok (.getfield 15, 3) := by decide +kernel
theorem dX3_put_11 : decode cX3_put 11 = .ok (.sipush 640, 3) := by decide +kernel
theorem dX3_put_14 : decode cX3_put 14 = .ok (.if_icmp .ge 32, 3) := by decide +kernel
theorem dX3_put_17 : decode cX3_put 17 = .ok (.aload_n 0, 1) := by decide +kernel
theorem dX3_put_18 : decode cX3_put 18 = .ok (.getfield 9, 3) := by decide +kernel
theorem dX3_put_21 : decode cX3_put 21 = .ok (.aload_n 0, 1) := by decide +kernel
theorem dX3_put_22 : decode cX3_put 22 = .ok (.getfield 15, 3) := by decide +kernel
theorem dX3_put_25 : decode cX3_put 25 = .ok (.iload_n 1, 1) := by decide +kernel
theorem dX3_put_26 : decode cX3_put 26 = .ok (.iload_n 2, 1) := by decide +kernel
theorem dX3_put_27 : decode cX3_put 27 = .ok (.ishr, 1) := by decide +kernel
theorem dX3_put_28 : decode cX3_put 28 = .ok (.i2b, 1) := by decide +kernel
theorem dX3_put_29 : decode cX3_put 29 = .ok (.bastore, 1) := by decide +kernel
theorem dX3_put_30 : decode cX3_put 30 = .ok (.aload_n 0, 1) := by decide +kernel
theorem dX3_put_31 : decode cX3_put 31 = .ok (.dup, 1) := by decide +kernel
theorem dX3_put_32 : decode cX3_put 32 = .ok (.getfield 15, 3) := by decide +kernel
theorem dX3_put_35 : decode cX3_put 35 = .ok (.iconst 1, 1) := by decide +kernel
theorem dX3_put_36 : decode cX3_put 36 = .ok (.iadd, 1) := by decide +kernel
theorem dX3_put_37 : decode cX3_put 37 = .ok (.putfield 15, 3) := by decide +kernel
theorem dX3_put_40 : decode cX3_put 40 = .ok (.iinc 2 (-8), 3) := by decide +kernel
theorem dX3_put_43 : decode cX3_put 43 = .ok (.goto (-40), 3) := by decide +kernel
theorem dX3_put_46 : decode cX3_put 46 = .ok (.return_, 1) := by decide +kernel
theorem dX4_init_0 : decode cX4_init 0 = .ok (.aload_n 0, 1) := by decide +kernel
theorem dX4_init_1 : decode cX4_init 1 = .ok (.invokespecial 3, 3) := by decide +kernel
theorem dX4_init_4 : decode cX4_init 4 = .ok (.aload_n 0, 1) := by decide +kernel
theorem dX4_init_5 : decode cX4_init 5 = .ok (.iconst 4, 1) := by decide +kernel
theorem dX4_init_6 : decode cX4_init 6 = .ok (.newarray .int, 2) := by decide +kernel
theorem dX4_init_8 : decode cX4_init 8 = .ok (.putfield 11, 3) := by decide +kernel
theorem dX4_init_11 : decode cX4_init 11 = .ok (.aload_n 0, 1) := by decide +kernel
theorem dX4_init_12 : decode cX4_init 12 = .ok (.new 15, 3) := by decide +kernel
theorem dX4_init_15 : decode cX4_init 15 = .ok (.dup, 1) := by decide +kernel
theorem dX4_init_16 : decode cX4_init 16 = .ok (.aload_n 1, 1) := by decide +kernel
theorem dX4_init_17 : decode cX4_init 17 = .ok (.invokespecial 17, 3) := by decide +kernel
theorem dX4_init_20 : decode cX4_init 20 = .ok (.putfield 20, 3) := by decide +kernel
theorem dX4_init_23 : decode cX4_init 23 = .ok (.aload_n 0, 1) := by decide +kernel
theorem dX4_init_24 : decode cX4_init 24 = .ok (.aload_n 2, 1) := by decide +kernel
theorem dX4_init_25 : decode cX4_init 25 = .ok (.putfield 24, 3) := by decide +kernel
theorem dX4_init_28 : decode cX4_init 28 = .ok (.return_, 1) := by decide +kernel
theorem dX4_readAll_0 : decode cX4_readAll 0 = .ok (.aload_n 0, 1) := by decide +kernel
theorem dX4_readAll_1 : decode cX4_readAll 1 = .ok (.invokevirtual 28, 3) := by decide +kernel
theorem dX4_readAll_4 : decode cX4_readAll 4 = .ok (.iconst 0, 1) := by decide +kernel
theorem dX4_readAll_5 : decode cX4_readAll 5 = .ok (.istore_n 1, 1) := by decide +kernel
theorem dX4_readAll_6 : decode cX4_readAll 6 = .ok (.iload_n 1, 1) := by decide +kernel
theorem dX4_readAll_7 : decode cX4_readAll 7 = .ok (.sipush 640, 3) := by decide +kernel
theorem dX4_readAll_10 : decode cX4_readAll 10 = .ok (.if_icmp .gt 68, 3) := by decide +kernel
theorem dX4_readAll_13 : decode cX4_readAll 13 = .ok (.aload_n 0, 1) := by decide +kernel
theorem dX4_readAll_14 : decode cX4_readAll 14 = .ok (.getfield 31, 3) := by decide +kernel
theorem dX4_readAll_17 : decode cX4_readAll 17 = .ok (.ifCond .ne 61, 3) := by decide +kernel
theorem dX4_readAll_20 : decode cX4_readAll 20 = .ok (.aload_n 0, 1) := by decide +kernel
theorem dX4_readAll_21 : decode cX4_readAll 21 = .ok (.getfield 20, 3) := by decide +kernel
theorem dX4_readAll_24 : decode cX4_readAll 24 = .ok (.invokevirtual 35, 3) := by decide +kernel
theorem dX4_readAll_27 : decode cX4_readAll 27 = .ok (.aload_n 0, 1) := by decide +kernel
theorem dX4_readAll_28 : decode cX4_readAll 28 = .ok (.getfield 20, 3) := by decide +kernel
theorem dX4_readAll_31 : decode cX4_readAll 31 = .ok (.getfield 38, 3) := by decide +kernel
theorem dX4_readAll_34 : decode cX4_readAll 34 = .ok (.ifCond .ne 19, 3) := by decide +kernel
theorem dX4_readAll_37 : decode cX4_readAll 37 = .ok (.aload_n 0, 1) := by decide +kernel
theorem dX4_readAll_38 : decode cX4_readAll 38 = .ok (.getfield 41, 3) := by decide +kernel
theorem dX4_readAll_41 : decode cX4_readAll 41 = .ok (.ifCond .le 12, 3) := by decide +kernel
theorem dX4_readAll_44 : decode cX4_readAll 44 = .ok (.aload_n 0, 1) := by decide +kernel
theorem dX4_readAll_45 : decode cX4_readAll 45 = .ok (.getfield 44, 3) := by decide +kernel
theorem dX4_readAll_48 : decode cX4_readAll 48 = .ok (.ifCond .ne 5, 3) := by decide +kernel
theorem dX4_readAll_51 : decode cX4_readAll 51 = .ok (.iconst 1, 1) := by decide +kernel
theorem dX4_readAll_52 : decode cX4_readAll 52 = .ok (.ireturn, 1) := by decide +kernel
theorem dX4_readAll_53 : decode cX4_readAll 53 = .ok (.aload_n 0, 1) := by decide +kernel
theorem dX4_readAll_54 : decode cX4_readAll 54 = .ok (.aload_n 0, 1) := by decide +kernel
theorem dX4_readAll_55 : decode cX4_readAll 55 = .ok (.invokevirtual 48, 3) := by decide +kernel
theorem dX4_readAll_58 : decode cX4_readAll 58 = .ok (.putfield 31, 3) := by decide +kernel
theorem dX4_readAll_61 : decode cX4_readAll 61 = .ok (.aload_n 0, 1) := by decide +kernel
theorem dX4_readAll_62 : decode cX4_readAll 62 = .ok (.aload_n 0, 1) := by decide +kernel
theorem dX4_readAll_63 : decode cX4_readAll 63 = .ok (.getfield 20, 3) := by decide +kernel
theorem dX4_readAll_66 : decode cX4_readAll 66 = .ok (.getfield 52, 3) := by decide +kernel
theorem dX4_readAll_69 : decode cX4_readAll 69 = .ok (.putfield 55, 3) := by decide +kernel
theorem dX4_readAll_72 : decode cX4_readAll 72 = .ok (.iinc 1 1, 3) := by decide +kernel
theorem dX4_readAll_75 : decode cX4_readAll 75 = .ok (.goto (-69), 3) := by decide +kernel
theorem dX4_readAll_78 : decode cX4_readAll 78 = .ok (.iconst 0, 1) := by decide +kernel
theorem dX4_readAll_79 : decode cX4_readAll 79 = .ok (.ireturn, 1) := by decide +kernel
theorem dX4_start_0 : decode cX4_start 0 = .ok (.aload_n 0, 1) := by decide +kernel
theorem dX4_start_1 : decode cX4_start 1 = .ok (.getfield 24, 3) := by decide +kernel
theorem dX4_start_4 : decode cX4_start 4 = .ok (.invokevirtual 58, 3) := by decide +kernel
theorem dX4_start_7 : decode cX4_start 7 = .ok (.aload_n 0, 1) := by decide +kernel
theorem dX4_start_8 : decode cX4_start 8 = .ok (.getfield 20, 3) := by decide +kernel
theorem dX4_start_11 : decode cX4_start 11 = .ok (.invokevirtual 63, 3) := by decide +kernel
theorem dX4_start_14 : decode cX4_start 14 = .ok (.aload_n 0, 1) := by decide +kernel
theorem dX4_start_15 : decode cX4_start 15 = .ok (.iconst 0, 1) := by decide +kernel
theorem dX4_start_16 : decode cX4_start 16 = .ok (.putfield 44, 3) := by decide +kernel
theorem dX4_start_19 : decode cX4_start 19 = .ok (.aload_n 0, 1) := by decide +kernel
theorem dX4_start_20 : decode cX4_start 20 = .ok (.iconst 0, 1) := by decide +kernel
theorem dX4_start_21 : decode cX4_start 21 = .ok (.putfield 41, 3) := by decide +kernel
theorem dX4_start_24 : decode cX4_start 24 = .ok (.aload_n 0, 1) := by decide +kernel
theorem dX4_start_25 : decode cX4_start 25 = .ok (.iconst 0, 1) := by decide +kernel
theorem dX4_start_26 : decode cX4_start 26 = .ok (.putfield 31, 3) := by decide +kernel
theorem dX4_start_29 : decode cX4_start 29 = .ok (.return_, 1) := by decide +kernel
theorem dX4_takeToken_0 : decode cX4_takeToken 0 = .ok (.aload_n 0, 1) := by decide +kernel
theorem dX4_takeToken_1 : decode cX4_takeToken 1 = .ok (.getfield 44, 3) := by decide +kernel
theorem dX4_takeToken_4 : decode cX4_takeToken 4 = .ok (.ifCond .ne 8, 3) := by decide +kernel
theorem dX4_takeToken_7 : decode cX4_takeToken 7 = .ok (.aload_n 0, 1) := by decide +kernel
theorem dX4_takeToken_8 : decode cX4_takeToken 8 = .ok (.invokevirtual 66, 3) := by decide +kernel
theorem dX4_takeToken_11 : decode cX4_takeToken 11 = .ok (.ireturn, 1) := by decide +kernel
theorem dX4_takeToken_12 : decode cX4_takeToken 12 = .ok (.aload_n 0, 1) := by decide +kernel
theorem dX4_takeToken_13 : decode cX4_takeToken 13 = .ok (.getfield 69, 3) := by decide +kernel
theorem dX4_takeToken_16 : decode cX4_takeToken 16 = .ok (.aload_n 0, 1) := by decide +kernel
theorem dX4_takeToken_17 : decode cX4_takeToken 17 = .ok (.invokevirtual 72, 3) := by decide +kernel
theorem dX4_takeToken_20 : decode cX4_takeToken 20 = .ok (.if_icmp .ge 10, 3) := by decide +kernel
theorem dX4_takeToken_23 : decode cX4_takeToken 23 = .ok (.aload_n 0, 1) := by decide +kernel
theorem dX4_takeToken_24 : decode cX4_takeToken 24 = .ok (.invokevirtual 75, 3) := by decide +kernel
theorem dX4_takeToken_27 : decode cX4_takeToken 27 = .ok (.goto 7, 3) := by decide +kernel
theorem dX4_takeToken_30 : decode cX4_takeToken 30 = .ok (.aload_n 0, 1) := by decide +kernel
theorem dX4_takeToken_31 : decode cX4_takeToken 31 = .ok (.invokevirtual 78, 3) := by decide +kernel
theorem dX4_takeToken_34 : decode cX4_takeToken 34 = .ok (.ireturn, 1) := by decide +kernel
theorem dX4_takeWord_0 : decode cX4_takeWord 0 = .ok (.aload_n 0, 1) := by decide +kernel
theorem dX4_takeWord_1 : decode cX4_takeWord 1 = .ok (.getfield 41, 3) := by decide +kernel
theorem dX4_takeWord_4 : decode cX4_takeWord 4 = .ok (.ifCond .ne 22, 3) := by decide +kernel
theorem dX4_takeWord_7 : decode cX4_takeWord 7 = .ok (.aload_n 0, 1) := by decide +kernel
theorem dX4_takeWord_8 : decode cX4_takeWord 8 = .ok (.getfield 20, 3) := by decide +kernel
theorem dX4_takeWord_11 : decode cX4_takeWord 11 = .ok (.getfield 38, 3) := by decide +kernel
theorem dX4_takeWord_14 : decode cX4_takeWord 14 = .ok (.iconst 4, 1) := by decide +kernel
theorem dX4_takeWord_15 : decode cX4_takeWord 15 = .ok (.if_icmp .ne 7, 3) := by decide +kernel
theorem dX4_takeWord_18 : decode cX4_takeWord 18 = .ok (.iconst 1, 1) := by decide +kernel
theorem dX4_takeWord_19 : decode cX4_takeWord 19 = .ok (.goto 37, 3) := by decide +kernel
theorem dX4_takeWord_22 : decode cX4_takeWord 22 = .ok (.iconst 0, 1) := by decide +kernel
theorem dX4_takeWord_23 : decode cX4_takeWord 23 = .ok (.goto 33, 3) := by decide +kernel
theorem dX4_takeWord_26 : decode cX4_takeWord 26 = .ok (.aload_n 0, 1) := by decide +kernel
theorem dX4_takeWord_27 : decode cX4_takeWord 27 = .ok (.getfield 20, 3) := by decide +kernel
theorem dX4_takeWord_30 : decode cX4_takeWord 30 = .ok (.getfield 38, 3) := by decide +kernel
theorem dX4_takeWord_33 : decode cX4_takeWord 33 = .ok (.iconst 4, 1) := by decide +kernel
theorem dX4_takeWord_34 : decode cX4_takeWord 34 = .ok (.if_icmp .le 21, 3) := by decide +kernel
theorem dX4_takeWord_37 : decode cX4_takeWord 37 = .ok (.aload_n 0, 1) := by decide +kernel
theorem dX4_takeWord_38 : decode cX4_takeWord 38 = .ok (.getfield 20, 3) := by decide +kernel
theorem dX4_takeWord_41 : decode cX4_takeWord 41 = .ok (.getfield 38, 3) := by decide +kernel
theorem dX4_takeWord_44 : decode cX4_takeWord 44 = .ok (.aload_n 0, 1) := by decide +kernel
theorem dX4_takeWord_45 : decode cX4_takeWord 45 = .ok (.getfield 81, 3) := by decide +kernel
theorem dX4_takeWord_48 : decode cX4_takeWord 48 = .ok (.if_icmp .lt 7, 3) := by decide +kernel
theorem dX4_takeWord_51 : decode cX4_takeWord 51 = .ok (.iconst 1, 1) := by decide +kernel
theorem dX4_takeWord_52 : decode cX4_takeWord 52 = .ok (.goto 4, 3) := by decide +kernel
theorem dX4_takeWord_55 : decode cX4_takeWord 55 = .ok (.iconst 0, 1) := by decide +kernel
theorem dX4_takeWord_56 : decode cX4_takeWord 56 = .ok (.istore_n 1, 1) := by decide +kernel
theorem dX4_takeWord_57 : decode cX4_takeWord 57 = .ok (.iload_n 1, 1) := by decide +kernel
theorem dX4_takeWord_58 : decode cX4_takeWord 58 = .ok (.ifCond .ne 5, 3) := by decide +kernel
theorem dX4_takeWord_61 : decode cX4_takeWord 61 = .ok (.iconst 1, 1) := by decide +kernel
theorem dX4_takeWord_62 : decode cX4_takeWord 62 = .ok (.ireturn, 1) := by decide +kernel
theorem dX4_takeWord_63 : decode cX4_takeWord 63 = .ok (.aload_n 0, 1) := by decide +kernel
theorem dX4_takeWord_64 : decode cX4_takeWord 64 = .ok (.aload_n 0, 1) := by decide +kernel
theorem dX4_takeWord_65 : decode cX4_takeWord 65 = .ok (.getfield 20, 3) := by decide +kernel
theorem dX4_takeWord_68 : decode cX4_takeWord 68 = .ok (.getfield 38, 3) := by decide +kernel
theorem dX4_takeWord_71 : decode cX4_takeWord 71 = .ok (.putfield 81, 3) := by decide +kernel
theorem dX4_takeWord_74 : decode cX4_takeWord 74 = .ok (.aload_n 0, 1) := by decide +kernel
theorem dX4_takeWord_75 : decode cX4_takeWord 75 = .ok (.iconst 0, 1) := by decide +kernel
theorem dX4_takeWord_76 : decode cX4_takeWord 76 = .ok (.putfield 69, 3) := by decide +kernel
theorem dX4_takeWord_79 : decode cX4_takeWord 79 = .ok (.aload_n 0, 1) := by decide +kernel
theorem dX4_takeWord_80 : decode cX4_takeWord 80 = .ok (.iconst 1, 1) := by decide +kernel
theorem dX4_takeWord_81 : decode cX4_takeWord 81 = .ok (.putfield 44, 3) := by decide +kernel
theorem dX4_takeWord_84 : decode cX4_takeWord 84 = .ok (.aload_n 0, 1) := by decide +kernel
theorem dX4_takeWord_85 : decode cX4_takeWord 85 = .ok (.invokevirtual 84, 3) := by decide +kernel
theorem dX4_takeWord_88 : decode cX4_takeWord 88 = .ok (.ifCond .eq 7, 3) := by decide +kernel
theorem dX4_takeWord_91 : decode cX4_takeWord 91 = .ok (.iconst 0, 1) := by decide +kernel
theorem dX4_takeWord_92 : decode cX4_takeWord 92 = .ok (.goto 4, 3) := by decide +kernel
theorem dX4_takeWord_95 : decode cX4_takeWord 95 = .ok (.iconst 3, 1) := by decide +kernel
theorem dX4_takeWord_96 : decode cX4_takeWord 96 = .ok (.ireturn, 1) := by decide +kernel
theorem dX4_isRoomForLine_0 : decode cX4_isRoomForLine 0 = .ok (.aload_n 0, 1) := by decide +kernel
theorem dX4_isRoomForLine_1 : decode cX4_isRoomForLine 1 = .ok (.getfield 81, 3) := by decide +kernel
theorem dX4_isRoomForLine_4 : decode cX4_isRoomForLine 4 = .ok (.tableswitch 82 5 7 #[28, 46, 64], 28) := by decide +kernel
theorem dX4_isRoomForLine_32 : decode cX4_isRoomForLine 32 = .ok (.aload_n 0, 1) := by decide +kernel
theorem dX4_isRoomForLine_33 : decode cX4_isRoomForLine 33 = .ok (.getfield 24, 3) := by decide +kernel
theorem dX4_isRoomForLine_36 : decode cX4_isRoomForLine 36 = .ok (.getfield 88, 3) := by decide +kernel
theorem dX4_isRoomForLine_39 : decode cX4_isRoomForLine 39 = .ok (.bipush 6, 2) := by decide +kernel
theorem dX4_isRoomForLine_41 : decode cX4_isRoomForLine 41 = .ok (.if_icmp .ge 7, 3) := by decide +kernel
theorem dX4_isRoomForLine_44 : decode cX4_isRoomForLine 44 = .ok (.iconst 1, 1) := by decide +kernel
theorem dX4_isRoomForLine_45 : decode cX4_isRoomForLine 45 = .ok (.goto 4, 3) := by decide +kernel
theorem dX4_isRoomForLine_48 : decode cX4_isRoomForLine 48 = .ok (.iconst 0, 1) := by decide +kernel
theorem dX4_isRoomForLine_49 : decode cX4_isRoomForLine 49 = .ok (.ireturn, 1) := by decide +kernel
theorem dX4_isRoomForLine_50 : decode cX4_isRoomForLine 50 = .ok (.aload_n 0, 1) := by decide +kernel
theorem dX4_isRoomForLine_51 : decode cX4_isRoomForLine 51 = .ok (.getfield 24, 3) := by decide +kernel
theorem dX4_isRoomForLine_54 : decode cX4_isRoomForLine 54 = .ok (.getfield 91, 3) := by decide +kernel
theorem dX4_isRoomForLine_57 : decode cX4_isRoomForLine 57 = .ok (.bipush 12, 2) := by decide +kernel
theorem dX4_isRoomForLine_59 : decode cX4_isRoomForLine 59 = .ok (.if_icmp .ge 7, 3) := by decide +kernel
theorem dX4_isRoomForLine_62 : decode cX4_isRoomForLine 62 = .ok (.iconst 1, 1) := by decide +kernel
theorem dX4_isRoomForLine_63 : decode cX4_isRoomForLine 63 = .ok (.goto 4, 3) := by decide +kernel
theorem dX4_isRoomForLine_66 : decode cX4_isRoomForLine 66 = .ok (.iconst 0, 1) := by decide +kernel
theorem dX4_isRoomForLine_67 : decode cX4_isRoomForLine 67 = .ok (.ireturn, 1) := by decide +kernel
theorem dX4_isRoomForLine_68 : decode cX4_isRoomForLine 68 = .ok (.aload_n 0, 1) := by decide +kernel
theorem dX4_isRoomForLine_69 : decode cX4_isRoomForLine 69 = .ok (.getfield 24, 3) := by decide +kernel
theorem dX4_isRoomForLine_72 : decode cX4_isRoomForLine 72 = .ok (.getfield 94, 3) := by decide +kernel
theorem dX4_isRoomForLine_75 : decode cX4_isRoomForLine 75 = .ok (.bipush 12, 2) := by decide +kernel
theorem dX4_isRoomForLine_77 : decode cX4_isRoomForLine 77 = .ok (.if_icmp .ge 7, 3) := by decide +kernel
theorem dX4_isRoomForLine_80 : decode cX4_isRoomForLine 80 = .ok (.iconst 1, 1) := by decide +kernel
theorem dX4_isRoomForLine_81 : decode cX4_isRoomForLine 81 = .ok (.goto 4, 3) := by decide +kernel
theorem dX4_isRoomForLine_84 : decode cX4_isRoomForLine 84 = .ok (.iconst 0, 1) := by decide +kernel
theorem dX4_isRoomForLine_85 : decode cX4_isRoomForLine 85 = .ok (.ireturn, 1) := by decide +kernel
theorem dX4_isRoomForLine_86 : decode cX4_isRoomForLine 86 = .ok (.iconst 1, 1) := by decide +kernel
theorem dX4_isRoomForLine_87 : decode cX4_isRoomForLine 87 = .ok (.ireturn, 1) := by decide +kernel
theorem dX4_numbersOfLine_0 : decode cX4_numbersOfLine 0 = .ok (.aload_n 0, 1) := by decide +kernel
theorem dX4_numbersOfLine_1 : decode cX4_numbersOfLine 1 = .ok (.getfield 81, 3) := by decide +kernel
theorem dX4_numbersOfLine_4 : decode cX4_numbersOfLine 4 = .ok (.bipush 6, 2) := by decide +kernel
theorem dX4_numbersOfLine_6 : decode cX4_numbersOfLine 6 = .ok (.if_icmp .eq 12, 3) := by decide +kernel
theorem dX4_numbersOfLine_9 : decode cX4_numbersOfLine 9 = .ok (.aload_n 0, 1) := by decide +kernel
theorem dX4_numbersOfLine_10 : decode cX4_numbersOfLine 10 = .ok (.getfield 81, 3) := by decide +kernel
theorem dX4_numbersOfLine_13 : decode cX4_numbersOfLine 13 = .ok (.bipush 7, 2) := by decide +kernel
theorem dX4_numbersOfLine_15 : decode cX4_numbersOfLine 15 = .ok (.if_icmp .ne 7, 3) := by decide +kernel
theorem dX4_numbersOfLine_18 : decode cX4_numbersOfLine 18 = .ok (.iconst 4, 1) := by decide +kernel
theorem dX4_numbersOfLine_19 : decode cX4_numbersOfLine 19 = .ok (.goto 4, 3) := by decide +kernel
theorem dX4_numbersOfLine_22 : decode cX4_numbersOfLine 22 = .ok (.iconst 1, 1) := by decide +kernel
theorem dX4_numbersOfLine_23 : decode cX4_numbersOfLine 23 = .ok (.ireturn, 1) := by decide +kernel
theorem dX4_takeNumber_0 : decode cX4_takeNumber 0 = .ok (.aload_n 0, 1) := by decide +kernel
theorem dX4_takeNumber_1 : decode cX4_takeNumber 1 = .ok (.getfield 20, 3) := by decide +kernel
theorem dX4_takeNumber_4 : decode cX4_takeNumber 4 = .ok (.getfield 38, 3) := by decide +kernel
theorem dX4_takeNumber_7 : decode cX4_takeNumber 7 = .ok (.iconst 2, 1) := by decide +kernel
theorem dX4_takeNumber_8 : decode cX4_takeNumber 8 = .ok (.if_icmp .eq 5, 3) := by decide +kernel
theorem dX4_takeNumber_11 : decode cX4_takeNumber 11 = .ok (.iconst 1, 1) := by decide +kernel
theorem dX4_takeNumber_12 : decode cX4_takeNumber 12 = .ok (.ireturn, 1) := by decide +kernel
theorem dX4_takeNumber_13 : decode cX4_takeNumber 13 = .ok (.aload_n 0, 1) := by decide +kernel
theorem dX4_takeNumber_14 : decode cX4_takeNumber 14 = .ok (.aload_n 0, 1) := by decide +kernel
theorem dX4_takeNumber_15 : decode cX4_takeNumber 15 = .ok (.getfield 20, 3) := by decide +kernel
theorem dX4_takeNumber_18 : decode cX4_takeNumber 18 = .ok (.getfield 97, 3) := by decide +kernel
theorem dX4_takeNumber_21 : decode cX4_takeNumber 21 = .ok (.invokevirtual 100, 3) := by decide +kernel
theorem dX4_takeNumber_24 : decode cX4_takeNumber 24 = .ok (.ifCond .ne 5, 3) := by decide +kernel
theorem dX4_takeNumber_27 : decode cX4_takeNumber 27 = .ok (.iconst 2, 1) := by decide +kernel
theorem dX4_takeNumber_28 : decode cX4_takeNumber 28 = .ok (.ireturn, 1) := by decide +kernel
theorem dX4_takeNumber_29 : decode cX4_takeNumber 29 = .ok (.aload_n 0, 1) := by decide +kernel
theorem dX4_takeNumber_30 : decode cX4_takeNumber 30 = .ok (.getfield 11, 3) := by decide +kernel
theorem dX4_takeNumber_33 : decode cX4_takeNumber 33 = .ok (.aload_n 0, 1) := by decide +kernel
theorem dX4_takeNumber_34 : decode cX4_takeNumber 34 = .ok (.getfield 69, 3) := by decide +kernel
theorem dX4_takeNumber_37 : decode cX4_takeNumber 37 = .ok (.aload_n 0, 1) := by decide +kernel
theorem dX4_takeNumber_38 : decode cX4_takeNumber 38 = .ok (.getfield 20, 3) := by decide +kernel
theorem dX4_takeNumber_41 : decode cX4_takeNumber 41 = .ok (.getfield 97, 3) := by decide +kernel
theorem dX4_takeNumber_44 : decode cX4_takeNumber 44 = .ok (.iastore, 1) := by decide +kernel
theorem dX4_takeNumber_45 : decode cX4_takeNumber 45 = .ok (.aload_n 0, 1) := by decide +kernel
theorem dX4_takeNumber_46 : decode cX4_takeNumber 46 = .ok (.dup, 1) := by decide +kernel
theorem dX4_takeNumber_47 : decode cX4_takeNumber 47 = .ok (.getfield 69, 3) := by decide +kernel
theorem dX4_takeNumber_50 : decode cX4_takeNumber 50 = .ok (.iconst 1, 1) := by decide +kernel
theorem dX4_takeNumber_51 : decode cX4_takeNumber 51 = .ok (.iadd, 1) := by decide +kernel
theorem dX4_takeNumber_52 : decode cX4_takeNumber 52 = .ok (.putfield 69, 3) := by decide +kernel
theorem dX4_takeNumber_55 : decode cX4_takeNumber 55 = .ok (.iconst 0, 1) := by decide +kernel
theorem dX4_takeNumber_56 : decode cX4_takeNumber 56 = .ok (.ireturn, 1) := by decide +kernel
theorem dX4_isAsTold_0 : decode cX4_isAsTold 0 = .ok (.aload_n 0, 1) := by decide +kernel
theorem dX4_isAsTold_1 : decode cX4_isAsTold 1 = .ok (.getfield 81, 3) := by decide +kernel
theorem dX4_isAsTold_4 : decode cX4_isAsTold 4 = .ok (.tableswitch 60 4 7 #[32, 60, 48, 54], 32) := by decide +kernel
theorem dX4_isAsTold_36 : decode cX4_isAsTold 36 = .ok (.iload_n 1, 1) := by decide +kernel
theorem dX4_isAsTold_37 : decode cX4_isAsTold 37 = .ok (.iconst 1, 1) := by decide +kernel
theorem dX4_isAsTold_38 : decode cX4_isAsTold 38 = .ok (.if_icmp .lt 12, 3) := by decide +kernel
theorem dX4_isAsTold_41 : decode cX4_isAsTold 41 = .ok (.iload_n 1, 1) := by decide +kernel
theorem dX4_isAsTold_42 : decode cX4_isAsTold 42 = .ok (.iconst 4, 1) := by decide +kernel
theorem dX4_isAsTold_43 : decode cX4_isAsTold 43 = .ok (.if_icmp .gt 7, 3) := by decide +kernel
theorem dX4_isAsTold_46 : decode cX4_isAsTold 46 = .ok (.iconst 1, 1) := by decide +kernel
theorem dX4_isAsTold_47 : decode cX4_isAsTold 47 = .ok (.goto 4, 3) := by decide +kernel
theorem dX4_isAsTold_50 : decode cX4_isAsTold 50 = .ok (.iconst 0, 1) := by decide +kernel
theorem dX4_isAsTold_51 : decode cX4_isAsTold 51 = .ok (.ireturn, 1) := by decide +kernel
theorem dX4_isAsTold_52 : decode cX4_isAsTold 52 = .ok (.aload_n 0, 1) := by decide +kernel
theorem dX4_isAsTold_53 : decode cX4_isAsTold 53 = .ok (.iload_n 1, 1) := by decide +kernel
theorem dX4_isAsTold_54 : decode cX4_isAsTold 54 = .ok (.invokevirtual 104, 3) := by decide +kernel
theorem dX4_isAsTold_57 : decode cX4_isAsTold 57 = .ok (.ireturn, 1) := by decide +kernel
theorem dX4_isAsTold_58 : decode cX4_isAsTold 58 = .ok (.aload_n 0, 1) := by decide +kernel
theorem dX4_isAsTold_59 : decode cX4_isAsTold 59 = .ok (.iload_n 1, 1) := by decide +kernel
theorem dX4_isAsTold_60 : decode cX4_isAsTold 60 = .ok (.invokevirtual 107, 3) := by decide +kernel
theorem dX4_isAsTold_63 : decode cX4_isAsTold 63 = .ok (.ireturn, 1) := by decide +kernel
theorem dX4_isAsTold_64 : decode cX4_isAsTold 64 = .ok (.iconst 1, 1) := by decide +kernel
theorem dX4_isAsTold_65 : decode cX4_isAsTold 65 = .ok (.ireturn, 1) := by decide +kernel
theorem dX4_isAsToldOfLot_0 : decode cX4_isAsToldOfLot 0 = .ok (.aload_n 0, 1) := by decide +kernel
theorem dX4_isAsToldOfLot_1 : decode cX4_isAsToldOfLot 1 = .ok (.getfield 69, 3) := by decide +kernel
theorem dX4_isAsToldOfLot_4 : decode cX4_isAsToldOfLot 4 = .ok (.lookupswitch 42 #[(0, 28), (2, 37)], 28) := by decide +kernel
theorem dX4_isAsToldOfLot_32 : decode cX4_isAsToldOfLot 32 = .ok (.aload_n 0, 1) := by decide +kernel
theorem dX4_isAsToldOfLot_33 : decode cX4_isAsToldOfLot 33 = .ok (.getfield 24, 3) := by decide +kernel
theorem dX4_isAsToldOfLot_36 : decode cX4_isAsToldOfLot 36 = .ok (.iload_n 1, 1) := by decide +kernel
theorem dX4_isAsToldOfLot_37 : decode cX4_isAsToldOfLot 37 = .ok (.invokevirtual 110, 3) := by decide +kernel
theorem dX4_isAsToldOfLot_40 : decode cX4_isAsToldOfLot 40 = .ok (.ireturn, 1) := by decide +kernel
theorem dX4_isAsToldOfLot_41 : decode cX4_isAsToldOfLot 41 = .ok (.iload_n 1, 1) := by decide +kernel
theorem dX4_isAsToldOfLot_42 : decode cX4_isAsToldOfLot 42 = .ok (.invokestatic 113, 3) := by decide +kernel
theorem dX4_isAsToldOfLot_45 : decode cX4_isAsToldOfLot 45 = .ok (.ireturn, 1) := by decide +kernel
theorem dX4_isAsToldOfLot_46 : decode cX4_isAsToldOfLot 46 = .ok (.iconst 1, 1) := by decide +kernel
theorem dX4_isAsToldOfLot_47 : decode cX4_isAsToldOfLot 47 = .ok (.ireturn, 1) := by decide +kernel
theorem dX4_isAsToldOfOrder_0 : decode cX4_isAsToldOfOrder 0 = .ok (.aload_n 0, 1) := by decide +kernel
theorem dX4_isAsToldOfOrder_1 : decode cX4_isAsToldOfOrder 1 = .ok (.getfield 69, 3) := by decide +kernel
theorem dX4_isAsToldOfOrder_4 : decode cX4_isAsToldOfOrder 4 = .ok (.tableswitch 77 0 2 #[28, 37, 72], 28) := by decide +kernel
theorem dX4_isAsToldOfOrder_32 : decode cX4_isAsToldOfOrder 32 = .ok (.aload_n 0, 1) := by decide +kernel
theorem dX4_isAsToldOfOrder_33 : decode cX4_isAsToldOfOrder 33 = .ok (.getfield 24, 3) := by decide +kernel
theorem dX4_isAsToldOfOrder_36 : decode cX4_isAsToldOfOrder 36 = .ok (.iload_n 1, 1) := by decide +kernel
theorem dX4_isAsToldOfOrder_37 : decode cX4_isAsToldOfOrder 37 = .ok (.invokevirtual 116, 3) := by decide +kernel
theorem dX4_isAsToldOfOrder_40 : decode cX4_isAsToldOfOrder 40 = .ok (.ireturn, 1) := by decide +kernel
theorem dX4_isAsToldOfOrder_41 : decode cX4_isAsToldOfOrder 41 = .ok (.aload_n 0, 1) := by decide +kernel
theorem dX4_isAsToldOfOrder_42 : decode cX4_isAsToldOfOrder 42 = .ok (.getfield 24, 3) := by decide +kernel
theorem dX4_isAsToldOfOrder_45 : decode cX4_isAsToldOfOrder 45 = .ok (.iload_n 1, 1) := by decide +kernel
theorem dX4_isAsToldOfOrder_46 : decode cX4_isAsToldOfOrder 46 = .ok (.invokevirtual 110, 3) := by decide +kernel
theorem dX4_isAsToldOfOrder_49 : decode cX4_isAsToldOfOrder 49 = .ok (.ifCond .eq 25, 3) := by decide +kernel
theorem dX4_isAsToldOfOrder_52 : decode cX4_isAsToldOfOrder 52 = .ok (.aload_n 0, 1) := by decide +kernel
theorem dX4_isAsToldOfOrder_53 : decode cX4_isAsToldOfOrder 53 = .ok (.getfield 24, 3) := by decide +kernel
theorem dX4_isAsToldOfOrder_56 : decode cX4_isAsToldOfOrder 56 = .ok (.aload_n 0, 1) := by decide +kernel
theorem dX4_isAsToldOfOrder_57 : decode cX4_isAsToldOfOrder 57 = .ok (.getfield 11, 3) := by decide +kernel
theorem dX4_isAsToldOfOrder_60 : decode cX4_isAsToldOfOrder 60 = .ok (.iconst 0, 1) := by decide +kernel
theorem dX4_isAsToldOfOrder_61 : decode cX4_isAsToldOfOrder 61 = .ok (.iaload, 1) := by decide +kernel
theorem dX4_isAsToldOfOrder_62 : decode cX4_isAsToldOfOrder 62 = .ok (.iload_n 1, 1) := by decide +kernel
theorem dX4_isAsToldOfOrder_63 : decode cX4_isAsToldOfOrder 63 = .ok (.invokevirtual 119, 3) := by decide +kernel
theorem dX4_isAsToldOfOrder_66 : decode cX4_isAsToldOfOrder 66 = .ok (.iconst (-1), 1) := by decide +kernel
theorem dX4_isAsToldOfOrder_67 : decode cX4_isAsToldOfOrder 67 = .ok (.if_icmp .ne 7, 3) := by decide +kernel
theorem dX4_isAsToldOfOrder_70 : decode cX4_isAsToldOfOrder 70 = .ok (.iconst 1, 1) := by decide +kernel
theorem dX4_isAsToldOfOrder_71 : decode cX4_isAsToldOfOrder 71 = .ok (.goto 4, 3) := by decide +kernel
theorem dX4_isAsToldOfOrder_74 : decode cX4_isAsToldOfOrder 74 = .ok (.iconst 0, 1) := by decide +kernel
theorem dX4_isAsToldOfOrder_75 : decode cX4_isAsToldOfOrder 75 = .ok (.ireturn, 1) := by decide +kernel
theorem dX4_isAsToldOfOrder_76 : decode cX4_isAsToldOfOrder 76 = .ok (.iload_n 1, 1) := by decide +kernel
theorem dX4_isAsToldOfOrder_77 : decode cX4_isAsToldOfOrder 77 = .ok (.invokestatic 113, 3) := by decide +kernel
theorem dX4_isAsToldOfOrder_80 : decode cX4_isAsToldOfOrder 80 = .ok (.ireturn, 1) := by decide +kernel
theorem dX4_isAsToldOfOrder_81 : decode cX4_isAsToldOfOrder 81 = .ok (.iconst 1, 1) := by decide +kernel
theorem dX4_isAsToldOfOrder_82 : decode cX4_isAsToldOfOrder 82 = .ok (.ireturn, 1) := by decide +kernel
theorem dX4_takeStop_0 : decode cX4_takeStop 0 = .ok (.aload_n 0, 1) := by decide +kernel
theorem dX4_takeStop_1 : decode cX4_takeStop 1 = .ok (.getfield 20, 3) := by decide +kernel
theorem dX4_takeStop_4 : decode cX4_takeStop 4 = .ok (.getfield 38, 3) := by decide +kernel
theorem dX4_takeStop_7 : decode cX4_takeStop 7 = .ok (.iconst 3, 1) := by decide +kernel
theorem dX4_takeStop_8 : decode cX4_takeStop 8 = .ok (.if_icmp .eq 5, 3) := by decide +kernel
theorem dX4_takeStop_11 : decode cX4_takeStop 11 = .ok (.iconst 1, 1) := by decide +kernel
theorem dX4_takeStop_12 : decode cX4_takeStop 12 = .ok (.ireturn, 1) := by decide +kernel
theorem dX4_takeStop_13 : decode cX4_takeStop 13 = .ok (.aload_n 0, 1) := by decide +kernel
theorem dX4_takeStop_14 : decode cX4_takeStop 14 = .ok (.invokevirtual 123, 3) := by decide +kernel
theorem dX4_takeStop_17 : decode cX4_takeStop 17 = .ok (.aload_n 0, 1) := by decide +kernel
theorem dX4_takeStop_18 : decode cX4_takeStop 18 = .ok (.iconst 0, 1) := by decide +kernel
theorem dX4_takeStop_19 : decode cX4_takeStop 19 = .ok (.putfield 44, 3) := by decide +kernel
theorem dX4_takeStop_22 : decode cX4_takeStop 22 = .ok (.aload_n 0, 1) := by decide +kernel
theorem dX4_takeStop_23 : decode cX4_takeStop 23 = .ok (.dup, 1) := by decide +kernel
theorem dX4_takeStop_24 : decode cX4_takeStop 24 = .ok (.getfield 41, 3) := by decide +kernel
theorem dX4_takeStop_27 : decode cX4_takeStop 27 = .ok (.iconst 1, 1) := by decide +kernel
theorem dX4_takeStop_28 : decode cX4_takeStop 28 = .ok (.iadd, 1) := by decide +kernel
theorem dX4_takeStop_29 : decode cX4_takeStop 29 = .ok (.putfield 41, 3) := by decide +kernel
theorem dX4_takeStop_32 : decode cX4_takeStop 32 = .ok (.iconst 0, 1) := by decide +kernel
theorem dX4_takeStop_33 : decode cX4_takeStop 33 = .ok (.ireturn, 1) := by decide +kernel
theorem dX4_addLine_0 : decode cX4_addLine 0 = .ok (.aload_n 0, 1) := by decide +kernel
theorem dX4_addLine_1 : decode cX4_addLine 1 = .ok (.getfield 81, 3) := by decide +kernel
theorem dX4_addLine_4 : decode cX4_addLine 4 = .ok (.tableswitch 114 5 7 #[28, 44, 79], 28) := by decide +kernel
theorem dX4_addLine_32 : decode cX4_addLine 32 = .ok (.aload_n 0, 1) := by decide +kernel
theorem dX4_addLine_33 : decode cX4_addLine 33 = .ok (.getfield 24, 3) := by decide +kernel
theorem dX4_addLine_36 : decode cX4_addLine 36 = .ok (.aload_n 0, 1) := by decide +kernel
theorem dX4_addLine_37 : decode cX4_addLine 37 = .ok (.getfield 11, 3) := by decide +kernel
theorem dX4_addLine_40 : decode cX4_addLine 40 = .ok (.iconst 0, 1) := by decide +kernel
theorem dX4_addLine_41 : decode cX4_addLine 41 = .ok (.iaload, 1) := by decide +kernel
theorem dX4_addLine_42 : decode cX4_addLine 42 = .ok (.invokevirtual 126, 3) := by decide +kernel
theorem dX4_addLine_45 : decode cX4_addLine 45 = .ok (.goto 86, 3) := by decide +kernel
theorem dX4_addLine_48 : decode cX4_addLine 48 = .ok (.aload_n 0, 1) := by decide +kernel
theorem dX4_addLine_49 : decode cX4_addLine 49 = .ok (.getfield 24, 3) := by decide +kernel
theorem dX4_addLine_52 : decode cX4_addLine 52 = .ok (.aload_n 0, 1) := by decide +kernel
theorem dX4_addLine_53 : decode cX4_addLine 53 = .ok (.getfield 11, 3) := by decide +kernel
theorem dX4_addLine_56 : decode cX4_addLine 56 = .ok (.iconst 0, 1) := by decide +kernel
theorem dX4_addLine_57 : decode cX4_addLine 57 = .ok (.iaload, 1) := by decide +kernel
theorem dX4_addLine_58 : decode cX4_addLine 58 = .ok (.aload_n 0, 1) := by decide +kernel
theorem dX4_addLine_59 : decode cX4_addLine 59 = .ok (.getfield 11, 3) := by decide +kernel
theorem dX4_addLine_62 : decode cX4_addLine 62 = .ok (.iconst 1, 1) := by decide +kernel
theorem dX4_addLine_63 : decode cX4_addLine 63 = .ok (.iaload, 1) := by decide +kernel
theorem dX4_addLine_64 : decode cX4_addLine 64 = .ok (.aload_n 0, 1) := by decide +kernel
theorem dX4_addLine_65 : decode cX4_addLine 65 = .ok (.getfield 11, 3) := by decide +kernel
theorem dX4_addLine_68 : decode cX4_addLine 68 = .ok (.iconst 2, 1) := by decide +kernel
theorem dX4_addLine_69 : decode cX4_addLine 69 = .ok (.iaload, 1) := by decide +kernel
theorem dX4_addLine_70 : decode cX4_addLine 70 = .ok (.aload_n 0, 1) := by decide +kernel
theorem dX4_addLine_71 : decode cX4_addLine 71 = .ok (.getfield 11, 3) := by decide +kernel
theorem dX4_addLine_74 : decode cX4_addLine 74 = .ok (.iconst 3, 1) := by decide +kernel
theorem dX4_addLine_75 : decode cX4_addLine 75 = .ok (.iaload, 1) := by decide +kernel
theorem dX4_addLine_76 : decode cX4_addLine 76 = .ok (.invokevirtual 130, 3) := by decide +kernel
theorem dX4_addLine_79 : decode cX4_addLine 79 = .ok (.pop, 1) := by decide +kernel
theorem dX4_addLine_80 : decode cX4_addLine 80 = .ok (.goto 51, 3) := by decide +kernel
theorem dX4_addLine_83 : decode cX4_addLine 83 = .ok (.aload_n 0, 1) := by decide +kernel
theorem dX4_addLine_84 : decode cX4_addLine 84 = .ok (.getfield 24, 3) := by decide +kernel
theorem dX4_addLine_87 : decode cX4_addLine 87 = .ok (.aload_n 0, 1) := by decide +kernel
theorem dX4_addLine_88 : decode cX4_addLine 88 = .ok (.getfield 11, 3) := by decide +kernel
theorem dX4_addLine_91 : decode cX4_addLine 91 = .ok (.iconst 0, 1) := by decide +kernel
theorem dX4_addLine_92 : decode cX4_addLine 92 = .ok (.iaload, 1) := by decide +kernel
theorem dX4_addLine_93 : decode cX4_addLine 93 = .ok (.aload_n 0, 1) := by decide +kernel
theorem dX4_addLine_94 : decode cX4_addLine 94 = .ok (.getfield 11, 3) := by decide +kernel
theorem dX4_addLine_97 : decode cX4_addLine 97 = .ok (.iconst 1, 1) := by decide +kernel
theorem dX4_addLine_98 : decode cX4_addLine 98 = .ok (.iaload, 1) := by decide +kernel
theorem dX4_addLine_99 : decode cX4_addLine 99 = .ok (.aload_n 0, 1) := by decide +kernel
theorem dX4_addLine_100 : decode cX4_addLine 100 = .ok (.getfield 11, 3) := by decide +kernel
theorem dX4_addLine_103 : decode cX4_addLine 103 = .ok (.iconst 2, 1) := by decide +kernel
theorem dX4_addLine_104 : decode cX4_addLine 104 = .ok (.iaload, 1) := by decide +kernel
theorem dX4_addLine_105 : decode cX4_addLine 105 = .ok (.aload_n 0, 1) := by decide +kernel
theorem dX4_addLine_106 : decode cX4_addLine 106 = .ok (.getfield 11, 3) := by decide +kernel
theorem dX4_addLine_109 : decode cX4_addLine 109 = .ok (.iconst 3, 1) := by decide +kernel
theorem dX4_addLine_110 : decode cX4_addLine 110 = .ok (.iaload, 1) := by decide +kernel
theorem dX4_addLine_111 : decode cX4_addLine 111 = .ok (.invokevirtual 134, 3) := by decide +kernel
theorem dX4_addLine_114 : decode cX4_addLine 114 = .ok (.pop, 1) := by decide +kernel
theorem dX4_addLine_115 : decode cX4_addLine 115 = .ok (.goto 16, 3) := by decide +kernel
theorem dX4_addLine_118 : decode cX4_addLine 118 = .ok (.aload_n 0, 1) := by decide +kernel
theorem dX4_addLine_119 : decode cX4_addLine 119 = .ok (.getfield 24, 3) := by decide +kernel
theorem dX4_addLine_122 : decode cX4_addLine 122 = .ok (.aload_n 0, 1) := by decide +kernel
theorem dX4_addLine_123 : decode cX4_addLine 123 = .ok (.getfield 11, 3) := by decide +kernel
theorem dX4_addLine_126 : decode cX4_addLine 126 = .ok (.iconst 0, 1) := by decide +kernel
theorem dX4_addLine_127 : decode cX4_addLine 127 = .ok (.iaload, 1) := by decide +kernel
theorem dX4_addLine_128 : decode cX4_addLine 128 = .ok (.putfield 137, 3) := by decide +kernel
theorem dX4_addLine_131 : decode cX4_addLine 131 = .ok (.return_, 1) := by decide +kernel
theorem dX5_init_0 : decode cX5_init 0 = .ok (.aload_n 0, 1) := by decide +kernel
theorem dX5_init_1 : decode cX5_init 1 = .ok (.invokespecial 3, 3) := by decide +kernel
theorem dX5_init_4 : decode cX5_init 4 = .ok (.aload_n 0, 1) := by decide +kernel
theorem dX5_init_5 : decode cX5_init 5 = .ok (.aload_n 1, 1) := by decide +kernel
theorem dX5_init_6 : decode cX5_init 6 = .ok (.putfield 9, 3) := by decide +kernel
theorem dX5_init_9 : decode cX5_init 9 = .ok (.return_, 1) := by decide +kernel
theorem dX5_rewind_0 : decode cX5_rewind 0 = .ok (.aload_n 0, 1) := by decide +kernel
theorem dX5_rewind_1 : decode cX5_rewind 1 = .ok (.iconst 0, 1) := by decide +kernel
theorem dX5_rewind_2 : decode cX5_rewind 2 = .ok (.putfield 15, 3) := by decide +kernel
theorem dX5_rewind_5 : decode cX5_rewind 5 = .ok (.return_, 1) := by decide +kernel
theorem dX5_advance_0 : decode cX5_advance 0 = .ok (.aload_n 0, 1) := by decide +kernel
theorem dX5_advance_1 : decode cX5_advance 1 = .ok (.invokevirtual 19, 3) := by decide +kernel
theorem dX5_advance_4 : decode cX5_advance 4 = .ok (.aload_n 0, 1) := by decide +kernel
theorem dX5_advance_5 : decode cX5_advance 5 = .ok (.aload_n 0, 1) := by decide +kernel
theorem dX5_advance_6 : decode cX5_advance 6 = .ok (.getfield 15, 3) := by decide +kernel
theorem dX5_advance_9 : decode cX5_advance 9 = .ok (.putfield 22, 3) := by decide +kernel
theorem dX5_advance_12 : decode cX5_advance 12 = .ok (.aload_n 0, 1) := by decide +kernel
theorem dX5_advance_13 : decode cX5_advance 13 = .ok (.getfield 9, 3) := by decide +kernel
theorem dX5_advance_16 : decode cX5_advance 16 = .ok (.getfield 25, 3) := by decide +kernel
theorem dX5_advance_19 : decode cX5_advance 19 = .ok (.sipush 600, 3) := by decide +kernel
theorem dX5_advance_22 : decode cX5_advance 22 = .ok (.if_icmp .le 28, 3) := by decide +kernel
theorem dX5_advance_25 : decode cX5_advance 25 = .ok (.aload_n 0, 1) := by decide +kernel
theorem dX5_advance_26 : decode cX5_advance 26 = .ok (.getfield 15, 3) := by decide +kernel
theorem dX5_advance_29 : decode cX5_advance 29 = .ok (.sipush 600, 3) := by decide +kernel
theorem dX5_advance_32 : decode cX5_advance 32 = .ok (.if_icmp .lt 18, 3) := by decide +kernel
theorem dX5_advance_35 : decode cX5_advance 35 = .ok (.aload_n 0, 1) := by decide +kernel
theorem dX5_advance_36 : decode cX5_advance 36 = .ok (.sipush 600, 3) := by decide +kernel
theorem dX5_advance_39 : decode cX5_advance 39 = .ok (.putfield 22, 3) := by decide +kernel
theorem dX5_advance_42 : decode cX5_advance 42 = .ok (.aload_n 0, 1) := by decide +kernel
theorem dX5_advance_43 : decode cX5_advance 43 = .ok (.iconst 1, 1) := by decide +kernel
theorem dX5_advance_44 : decode cX5_advance 44 = .ok (.putfield 30, 3) := by decide +kernel
theorem dX5_advance_47 : decode cX5_advance 47 = .ok (.goto 64, 3) := by decide +kernel
theorem dX5_advance_50 : decode cX5_advance 50 = .ok (.aload_n 0, 1) := by decide +kernel
theorem dX5_advance_51 : decode cX5_advance 51 = .ok (.getfield 15, 3) := by decide +kernel
theorem dX5_advance_54 : decode cX5_advance 54 = .ok (.aload_n 0, 1) := by decide +kernel
theorem dX5_advance_55 : decode cX5_advance 55 = .ok (.getfield 9, 3) := by decide +kernel
theorem dX5_advance_58 : decode cX5_advance 58 = .ok (.getfield 25, 3) := by decide +kernel
theorem dX5_advance_61 : decode cX5_advance 61 = .ok (.if_icmp .lt 11, 3) := by decide +kernel
theorem dX5_advance_64 : decode cX5_advance 64 = .ok (.aload_n 0, 1) := by decide +kernel
theorem dX5_advance_65 : decode cX5_advance 65 = .ok (.iconst 0, 1) := by decide +kernel
theorem dX5_advance_66 : decode cX5_advance 66 = .ok (.putfield 30, 3) := by decide +kernel
theorem dX5_advance_69 : decode cX5_advance 69 = .ok (.goto 42, 3) := by decide +kernel
theorem dX5_advance_72 : decode cX5_advance 72 = .ok (.aload_n 0, 1) := by decide +kernel
theorem dX5_advance_73 : decode cX5_advance 73 = .ok (.getfield 9, 3) := by decide +kernel
theorem dX5_advance_76 : decode cX5_advance 76 = .ok (.getfield 33, 3) := by decide +kernel
theorem dX5_advance_79 : decode cX5_advance 79 = .ok (.aload_n 0, 1) := by decide +kernel
theorem dX5_advance_80 : decode cX5_advance 80 = .ok (.getfield 15, 3) := by decide +kernel
theorem dX5_advance_83 : decode cX5_advance 83 = .ok (.baload, 1) := by decide +kernel
theorem dX5_advance_84 : decode cX5_advance 84 = .ok (.bipush 59, 2) := by decide +kernel
theorem dX5_advance_86 : decode cX5_advance 86 = .ok (.if_icmp .ne 21, 3) := by decide +kernel
theorem dX5_advance_89 : decode cX5_advance 89 = .ok (.aload_n 0, 1) := by decide +kernel
theorem dX5_advance_90 : decode cX5_advance 90 = .ok (.iconst 3, 1) := by decide +kernel
theorem dX5_advance_91 : decode cX5_advance 91 = .ok (.putfield 30, 3) := by decide +kernel
theorem dX5_advance_94 : decode cX5_advance 94 = .ok (.aload_n 0, 1) := by decide +kernel
theorem dX5_advance_95 : decode cX5_advance 95 = .ok (.dup, 1) := by decide +kernel
theorem dX5_advance_96 : decode cX5_advance 96 = .ok (.getfield 15, 3) := by decide +kernel
theorem dX5_advance_99 : decode cX5_advance 99 = .ok (.iconst 1, 1) := by decide +kernel
theorem dX5_advance_100 : decode cX5_advance 100 = .ok (.iadd, 1) := by decide +kernel
theorem dX5_advance_101 : decode cX5_advance 101 = .ok (.putfield 15, 3) := by decide +kernel
theorem dX5_advance_104 : decode cX5_advance 104 = .ok (.goto 7, 3) := by decide +kernel
theorem dX5_advance_107 : decode cX5_advance 107 = .ok (.aload_n 0, 1) := by decide +kernel
theorem dX5_advance_108 : decode cX5_advance 108 = .ok (.invokevirtual 37, 3) := by decide +kernel
theorem dX5_advance_111 : decode cX5_advance 111 = .ok (.return_, 1) := by decide +kernel
theorem dX5_skipBlanks_0 : decode cX5_skipBlanks 0 = .ok (.aload_n 0, 1) := by decide +kernel
theorem dX5_skipBlanks_1 : decode cX5_skipBlanks 1 = .ok (.getfield 15, 3) := by decide +kernel
theorem dX5_skipBlanks_4 : decode cX5_skipBlanks 4 = .ok (.aload_n 0, 1) := by decide +kernel
theorem dX5_skipBlanks_5 : decode cX5_skipBlanks 5 = .ok (.getfield 9, 3) := by decide +kernel
theorem dX5_skipBlanks_8 : decode cX5_skipBlanks 8 = .ok (.getfield 25, 3) := by decide +kernel
theorem dX5_skipBlanks_11 : decode cX5_skipBlanks 11 = .ok (.if_icmp .ge 50, 3) := by decide +kernel
theorem dX5_skipBlanks_14 : decode cX5_skipBlanks 14 = .ok (.aload_n 0, 1) := by decide +kernel
theorem dX5_skipBlanks_15 : decode cX5_skipBlanks 15 = .ok (.getfield 9, 3) := by decide +kernel
theorem dX5_skipBlanks_18 : decode cX5_skipBlanks 18 = .ok (.getfield 33, 3) := by decide +kernel
theorem dX5_skipBlanks_21 : decode cX5_skipBlanks 21 = .ok (.aload_n 0, 1) := by decide +kernel
theorem dX5_skipBlanks_22 : decode cX5_skipBlanks 22 = .ok (.getfield 15, 3) := by decide +kernel
theorem dX5_skipBlanks_25 : decode cX5_skipBlanks 25 = .ok (.baload, 1) := by decide +kernel
theorem dX5_skipBlanks_26 : decode cX5_skipBlanks 26 = .ok (.bipush 32, 2) := by decide +kernel
theorem dX5_skipBlanks_28 : decode cX5_skipBlanks 28 = .ok (.if_icmp .eq 20, 3) := by decide +kernel
theorem dX5_skipBlanks_31 : decode cX5_skipBlanks 31 = .ok (.aload_n 0, 1) := by decide +kernel
theorem dX5_skipBlanks_32 : decode cX5_skipBlanks 32 = .ok (.getfield 9, 3) := by decide +kernel
theorem dX5_skipBlanks_35 : decode cX5_skipBlanks 35 = .ok (.getfield 33, 3) := by decide +kernel
theorem dX5_skipBlanks_38 : decode cX5_skipBlanks 38 = .ok (.aload_n 0, 1) := by decide +kernel
theorem dX5_skipBlanks_39 : decode cX5_skipBlanks 39 = .ok (.getfield 15, 3) := by decide +kernel
theorem dX5_skipBlanks_42 : decode cX5_skipBlanks 42 = .ok (.baload, 1) := by decide +kernel
theorem dX5_skipBlanks_43 : decode cX5_skipBlanks 43 = .ok (.bipush 10, 2) := by decide +kernel
theorem dX5_skipBlanks_45 : decode cX5_skipBlanks 45 = .ok (.if_icmp .ne 16, 3) := by decide +kernel
theorem dX5_skipBlanks_48 : decode cX5_skipBlanks 48 = .ok (.aload_n 0, 1) := by decide +kernel
theorem dX5_skipBlanks_49 : decode cX5_skipBlanks 49 = .ok (.dup, 1) := by decide +kernel
theorem dX5_skipBlanks_50 : decode cX5_skipBlanks 50 = .ok (.getfield 15, 3) := by decide +kernel
theorem dX5_skipBlanks_53 : decode cX5_skipBlanks 53 = .ok (.iconst 1, 1) := by decide +kernel
theorem dX5_skipBlanks_54 : decode cX5_skipBlanks 54 = .ok (.iadd, 1) := by decide +kernel
theorem dX5_skipBlanks_55 : decode cX5_skipBlanks 55 = .ok (.putfield 15, 3) := by decide +kernel
theorem dX5_skipBlanks_58 : decode cX5_skipBlanks 58 = .ok (.goto (-58), 3) := by decide +kernel
theorem dX5_skipBlanks_61 : decode cX5_skipBlanks 61 = .ok (.return_, 1) := by decide +kernel
theorem dX5_readRun_0 : decode cX5_readRun 0 = .ok (.iconst 0, 1) := by decide +kernel
theorem dX5_readRun_1 : decode cX5_readRun 1 = .ok (.istore_n 1, 1) := by decide +kernel
theorem dX5_readRun_2 : decode cX5_readRun 2 = .ok (.iconst 0, 1) := by decide +kernel
theorem dX5_readRun_3 : decode cX5_readRun 3 = .ok (.istore_n 2, 1) := by decide +kernel
theorem dX5_readRun_4 : decode cX5_readRun 4 = .ok (.aload_n 0, 1) := by decide +kernel
theorem dX5_readRun_5 : decode cX5_readRun 5 = .ok (.iconst 0, 1) := by decide +kernel
theorem dX5_readRun_6 : decode cX5_readRun 6 = .ok (.putfield 40, 3) := by decide +kernel
theorem dX5_readRun_9 : decode cX5_readRun 9 = .ok (.aload_n 0, 1) := by decide +kernel
theorem dX5_readRun_10 : decode cX5_readRun 10 = .ok (.getfield 15, 3) := by decide +kernel
theorem dX5_readRun_13 : decode cX5_readRun 13 = .ok (.aload_n 0, 1) := by decide +kernel
theorem dX5_readRun_14 : decode cX5_readRun 14 = .ok (.getfield 9, 3) := by decide +kernel
theorem dX5_readRun_17 : decode cX5_readRun 17 = .ok (.getfield 25, 3) := by decide +kernel
theorem dX5_readRun_20 : decode cX5_readRun 20 = .ok (.if_icmp .ge 118, 3) := by decide +kernel
theorem dX5_readRun_23 : decode cX5_readRun 23 = .ok (.aload_n 0, 1) := by decide +kernel
theorem dX5_readRun_24 : decode cX5_readRun 24 = .ok (.getfield 9, 3) := by decide +kernel
theorem dX5_readRun_27 : decode cX5_readRun 27 = .ok (.getfield 33, 3) := by decide +kernel
theorem dX5_readRun_30 : decode cX5_readRun 30 = .ok (.aload_n 0, 1) := by decide +kernel
theorem dX5_readRun_31 : decode cX5_readRun 31 = .ok (.getfield 15, 3) := by decide +kernel
theorem dX5_readRun_34 : decode cX5_readRun 34 = .ok (.baload, 1) := by decide +kernel
theorem dX5_readRun_35 : decode cX5_readRun 35 = .ok (.invokestatic 43, 3) := by decide +kernel
theorem dX5_readRun_38 : decode cX5_readRun 38 = .ok (.ifCond .ne 21, 3) := by decide +kernel
theorem dX5_readRun_41 : decode cX5_readRun 41 = .ok (.aload_n 0, 1) := by decide +kernel
theorem dX5_readRun_42 : decode cX5_readRun 42 = .ok (.getfield 9, 3) := by decide +kernel
theorem dX5_readRun_45 : decode cX5_readRun 45 = .ok (.getfield 33, 3) := by decide +kernel
theorem dX5_readRun_48 : decode cX5_readRun 48 = .ok (.aload_n 0, 1) := by decide +kernel
theorem dX5_readRun_49 : decode cX5_readRun 49 = .ok (.getfield 15, 3) := by decide +kernel
theorem dX5_readRun_52 : decode cX5_readRun 52 = .ok (.baload, 1) := by decide +kernel
theorem dX5_readRun_53 : decode cX5_readRun 53 = .ok (.invokestatic 47, 3) := by decide +kernel
theorem dX5_readRun_56 : decode cX5_readRun 56 = .ok (.ifCond .eq 82, 3) := by decide +kernel
theorem dX5_readRun_59 : decode cX5_readRun 59 = .ok (.aload_n 0, 1) := by decide +kernel
theorem dX5_readRun_60 : decode cX5_readRun 60 = .ok (.getfield 9, 3) := by decide +kernel
theorem dX5_readRun_63 : decode cX5_readRun 63 = .ok (.getfield 33, 3) := by decide +kernel
theorem dX5_readRun_66 : decode cX5_readRun 66 = .ok (.aload_n 0, 1) := by decide +kernel
theorem dX5_readRun_67 : decode cX5_readRun 67 = .ok (.getfield 15, 3) := by decide +kernel
theorem dX5_readRun_70 : decode cX5_readRun 70 = .ok (.baload, 1) := by decide +kernel
theorem dX5_readRun_71 : decode cX5_readRun 71 = .ok (.invokestatic 43, 3) := by decide +kernel
theorem dX5_readRun_74 : decode cX5_readRun 74 = .ok (.ifCond .eq 9, 3) := by decide +kernel
theorem dX5_readRun_77 : decode cX5_readRun 77 = .ok (.iinc 1 1, 3) := by decide +kernel
theorem dX5_readRun_80 : decode cX5_readRun 80 = .ok (.goto 45, 3) := by decide +kernel
theorem dX5_readRun_83 : decode cX5_readRun 83 = .ok (.iinc 2 1, 3) := by decide +kernel
theorem dX5_readRun_86 : decode cX5_readRun 86 = .ok (.aload_n 0, 1) := by decide +kernel
theorem dX5_readRun_87 : decode cX5_readRun 87 = .ok (.iload_n 2, 1) := by decide +kernel
theorem dX5_readRun_88 : decode cX5_readRun 88 = .ok (.iconst 2, 1) := by decide +kernel
theorem dX5_readRun_89 : decode cX5_readRun 89 = .ok (.if_icmp .gt 29, 3) := by decide +kernel
theorem dX5_readRun_92 : decode cX5_readRun 92 = .ok (.aload_n 0, 1) := by decide +kernel
theorem dX5_readRun_93 : decode cX5_readRun 93 = .ok (.getfield 40, 3) := by decide +kernel
theorem dX5_readRun_96 : decode cX5_readRun 96 = .ok (.bipush 10, 2) := by decide +kernel
theorem dX5_readRun_98 : decode cX5_readRun 98 = .ok (.imul, 1) := by decide +kernel
theorem dX5_readRun_99 : decode cX5_readRun 99 = .ok (.aload_n 0, 1) := by decide +kernel
theorem dX5_readRun_100 : decode cX5_readRun 100 = .ok (.getfield 9, 3) := by decide +kernel
theorem dX5_readRun_103 : decode cX5_readRun 103 = .ok (.getfield 33, 3) := by decide +kernel
theorem dX5_readRun_106 : decode cX5_readRun 106 = .ok (.aload_n 0, 1) := by decide +kernel
theorem dX5_readRun_107 : decode cX5_readRun 107 = .ok (.getfield 15, 3) := by decide +kernel
theorem dX5_readRun_110 : decode cX5_readRun 110 = .ok (.baload, 1) := by decide +kernel
theorem dX5_readRun_111 : decode cX5_readRun 111 = .ok (.bipush 48, 2) := by decide +kernel
theorem dX5_readRun_113 : decode cX5_readRun 113 = .ok (.isub, 1) := by decide +kernel
theorem dX5_readRun_114 : decode cX5_readRun 114 = .ok (.iadd, 1) := by decide +kernel
theorem dX5_readRun_115 : decode cX5_readRun 115 = .ok (.goto 7, 3) := by decide +kernel
theorem dX5_readRun_118 : decode cX5_readRun 118 = .ok (.aload_n 0, 1) := by decide +kernel
theorem dX5_readRun_119 : decode cX5_readRun 119 = .ok (.getfield 40, 3) := by decide +kernel
theorem dX5_readRun_122 : decode cX5_readRun 122 = .ok (.putfield 40, 3) := by decide +kernel
theorem dX5_readRun_125 : decode cX5_readRun 125 = .ok (.aload_n 0, 1) := by decide +kernel
theorem dX5_readRun_126 : decode cX5_readRun 126 = .ok (.dup, 1) := by decide +kernel
theorem dX5_readRun_127 : decode cX5_readRun 127 = .ok (.getfield 15, 3) := by decide +kernel
theorem dX5_readRun_130 : decode cX5_readRun 130 = .ok (.iconst 1, 1) := by decide +kernel
theorem dX5_readRun_131 : decode cX5_readRun 131 = .ok (.iadd, 1) := by decide +kernel
theorem dX5_readRun_132 : decode cX5_readRun 132 = .ok (.putfield 15, 3) := by decide +kernel
theorem dX5_readRun_135 : decode cX5_readRun 135 = .ok (.goto (-126), 3) := by decide +kernel
theorem dX5_readRun_138 : decode cX5_readRun 138 = .ok (.iload_n 2, 1) := by decide +kernel
theorem dX5_readRun_139 : decode cX5_readRun 139 = .ok (.ifCond .ne 14, 3) := by decide +kernel
theorem dX5_readRun_142 : decode cX5_readRun 142 = .ok (.aload_n 0, 1) := by decide +kernel
theorem dX5_readRun_143 : decode cX5_readRun 143 = .ok (.aload_n 0, 1) := by decide +kernel
theorem dX5_readRun_144 : decode cX5_readRun 144 = .ok (.invokevirtual 50, 3) := by decide +kernel
theorem dX5_readRun_147 : decode cX5_readRun 147 = .ok (.putfield 30, 3) := by decide +kernel
theorem dX5_readRun_150 : decode cX5_readRun 150 = .ok (.goto 21, 3) := by decide +kernel
theorem dX5_readRun_153 : decode cX5_readRun 153 = .ok (.aload_n 0, 1) := by decide +kernel
theorem dX5_readRun_154 : decode cX5_readRun 154 = .ok (.iload_n 1, 1) := by decide +kernel
theorem dX5_readRun_155 : decode cX5_readRun 155 = .ok (.ifCond .ne 12, 3) := by decide +kernel
theorem dX5_readRun_158 : decode cX5_readRun 158 = .ok (.iload_n 2, 1) := by decide +kernel
theorem dX5_readRun_159 : decode cX5_readRun 159 = .ok (.iconst 2, 1) := by decide +kernel
theorem dX5_readRun_160 : decode cX5_readRun 160 = .ok (.if_icmp .gt 7, 3) := by decide +kernel
theorem dX5_readRun_163 : decode cX5_readRun 163 = .ok (.iconst 2, 1) := by decide +kernel
theorem dX5_readRun_164 : decode cX5_readRun 164 = .ok (.goto 4, 3) := by decide +kernel
theorem dX5_readRun_167 : decode cX5_readRun 167 = .ok (.iconst 1, 1) := by decide +kernel
theorem dX5_readRun_168 : decode cX5_readRun 168 = .ok (.putfield 30, 3) := by decide +kernel
theorem dX5_readRun_171 : decode cX5_readRun 171 = .ok (.return_, 1) := by decide +kernel
theorem dX5_wordKind_0 : decode cX5_wordKind 0 = .ok (.aload_n 0, 1) := by decide +kernel
theorem dX5_wordKind_1 : decode cX5_wordKind 1 = .ok (.ldc 54, 2) := by decide +kernel
theorem dX5_wordKind_3 : decode cX5_wordKind 3 = .ok (.invokevirtual 56, 3) := by decide +kernel
theorem dX5_wordKind_6 : decode cX5_wordKind 6 = .ok (.ifCond .eq 5, 3) := by decide +kernel
theorem dX5_wordKind_9 : decode cX5_wordKind 9 = .ok (.iconst 4, 1) := by decide +kernel
theorem dX5_wordKind_10 : decode cX5_wordKind 10 = .ok (.ireturn, 1) := by decide +kernel
theorem dX5_wordKind_11 : decode cX5_wordKind 11 = .ok (.aload_n 0, 1) := by decide +kernel
theorem dX5_wordKind_12 : decode cX5_wordKind 12 = .ok (.ldc 60, 2) := by decide +kernel
theorem dX5_wordKind_14 : decode cX5_wordKind 14 = .ok (.invokevirtual 56, 3) := by decide +kernel
theorem dX5_wordKind_17 : decode cX5_wordKind 17 = .ok (.ifCond .eq 5, 3) := by decide +kernel
theorem dX5_wordKind_20 : decode cX5_wordKind 20 = .ok (.iconst 5, 1) := by decide +kernel
theorem dX5_wordKind_21 : decode cX5_wordKind 21 = .ok (.ireturn, 1) := by decide +kernel
theorem dX5_wordKind_22 : decode cX5_wordKind 22 = .ok (.aload_n 0, 1) := by decide +kernel
theorem dX5_wordKind_23 : decode cX5_wordKind 23 = .ok (.ldc 62, 2) := by decide +kernel
theorem dX5_wordKind_25 : decode cX5_wordKind 25 = .ok (.invokevirtual 56, 3) := by decide +kernel
theorem dX5_wordKind_28 : decode cX5_wordKind 28 = .ok (.ifCond .eq 6, 3) := by decide +kernel
theorem dX5_wordKind_31 : decode cX5_wordKind 31 = .ok (.bipush 6, 2) := by decide +kernel
theorem dX5_wordKind_33 : decode cX5_wordKind 33 = .ok (.ireturn, 1) := by decide +kernel
theorem dX5_wordKind_34 : decode cX5_wordKind 34 = .ok (.aload_n 0, 1) := by decide +kernel
theorem dX5_wordKind_35 : decode cX5_wordKind 35 = .ok (.ldc 64, 2) := by decide +kernel
theorem dX5_wordKind_37 : decode cX5_wordKind 37 = .ok (.invokevirtual 56, 3) := by decide +kernel
theorem dX5_wordKind_40 : decode cX5_wordKind 40 = .ok (.ifCond .eq 8, 3) := by decide +kernel
theorem dX5_wordKind_43 : decode cX5_wordKind 43 = .ok (.bipush 7, 2) := by decide +kernel
theorem dX5_wordKind_45 : decode cX5_wordKind 45 = .ok (.goto 4, 3) := by decide +kernel
theorem dX5_wordKind_48 : decode cX5_wordKind 48 = .ok (.iconst 1, 1) := by decide +kernel
theorem dX5_wordKind_49 : decode cX5_wordKind 49 = .ok (.ireturn, 1) := by decide +kernel
theorem dX5_spells_0 : decode cX5_spells 0 = .ok (.aload_n 0, 1) := by decide +kernel
theorem dX5_spells_1 : decode cX5_spells 1 = .ok (.getfield 15, 3) := by decide +kernel
theorem dX5_spells_4 : decode cX5_spells 4 = .ok (.aload_n 0, 1) := by decide +kernel
theorem dX5_spells_5 : decode cX5_spells 5 = .ok (.getfield 22, 3) := by decide +kernel
theorem dX5_spells_8 : decode cX5_spells 8 = .ok (.isub, 1) := by decide +kernel
theorem dX5_spells_9 : decode cX5_spells 9 = .ok (.aload_n 1, 1) := by decide +kernel
theorem dX5_spells_10 : decode cX5_spells 10 = .ok (.invokevirtual 66, 3) := by decide +kernel
theorem dX5_spells_13 : decode cX5_spells 13 = .ok (.if_icmp .eq 5, 3) := by decide +kernel
theorem dX5_spells_16 : decode cX5_spells 16 = .ok (.iconst 0, 1) := by decide +kernel
theorem dX5_spells_17 : decode cX5_spells 17 = .ok (.ireturn, 1) := by decide +kernel
theorem dX5_spells_18 : decode cX5_spells 18 = .ok (.iconst 0, 1) := by decide +kernel
theorem dX5_spells_19 : decode cX5_spells 19 = .ok (.istore_n 2, 1) := by decide +kernel
theorem dX5_spells_20 : decode cX5_spells 20 = .ok (.iload_n 2, 1) := by decide +kernel
theorem dX5_spells_21 : decode cX5_spells 21 = .ok (.aload_n 1, 1) := by decide +kernel
theorem dX5_spells_22 : decode cX5_spells 22 = .ok (.invokevirtual 66, 3) := by decide +kernel
theorem dX5_spells_25 : decode cX5_spells 25 = .ok (.if_icmp .ge 33, 3) := by decide +kernel
theorem dX5_spells_28 : decode cX5_spells 28 = .ok (.aload_n 0, 1) := by decide +kernel
theorem dX5_spells_29 : decode cX5_spells 29 = .ok (.getfield 9, 3) := by decide +kernel
theorem dX5_spells_32 : decode cX5_spells 32 = .ok (.getfield 33, 3) := by decide +kernel
theorem dX5_spells_35 : decode cX5_spells 35 = .ok (.aload_n 0, 1) := by decide +kernel
theorem dX5_spells_36 : decode cX5_spells 36 = .ok (.getfield 22, 3) := by decide +kernel
theorem dX5_spells_39 : decode cX5_spells 39 = .ok (.iload_n 2, 1) := by decide +kernel
theorem dX5_spells_40 : decode cX5_spells 40 = .ok (.iadd, 1) := by decide +kernel
theorem dX5_spells_41 : decode cX5_spells 41 = .ok (.baload, 1) := by decide +kernel
theorem dX5_spells_42 : decode cX5_spells 42 = .ok (.aload_n 1, 1) := by decide +kernel
theorem dX5_spells_43 : decode cX5_spells 43 = .ok (.iload_n 2, 1) := by decide +kernel
theorem dX5_spells_44 : decode cX5_spells 44 = .ok (.invokevirtual 71, 3) := by decide +kernel
theorem dX5_spells_47 : decode cX5_spells 47 = .ok (.if_icmp .eq 5, 3) := by decide +kernel
theorem dX5_spells_50 : decode cX5_spells 50 = .ok (.iconst 0, 1) := by decide +kernel
theorem dX5_spells_51 : decode cX5_spells 51 = .ok (.ireturn, 1) := by decide +kernel
theorem dX5_spells_52 : decode cX5_spells 52 = .ok (.iinc 2 1, 3) := by decide +kernel
theorem dX5_spells_55 : decode cX5_spells 55 = .ok (.goto (-35), 3) := by decide +kernel
theorem dX5_spells_58 : decode cX5_spells 58 = .ok (.iconst 1, 1) := by decide +kernel
theorem dX5_spells_59 : decode cX5_spells 59 = .ok (.ireturn, 1) := by decide +kernel
theorem dX5_isLetter_0 : decode cX5_isLetter 0 = .ok (.iload_n 0, 1) := by decide +kernel
theorem dX5_isLetter_1 : decode cX5_isLetter 1 = .ok (.bipush 97, 2) := by decide +kernel
theorem dX5_isLetter_3 : decode cX5_isLetter 3 = .ok (.if_icmp .lt 13, 3) := by decide +kernel
theorem dX5_isLetter_6 : decode cX5_isLetter 6 = .ok (.iload_n 0, 1) := by decide +kernel
theorem dX5_isLetter_7 : decode cX5_isLetter 7 = .ok (.bipush 122, 2) := by decide +kernel
theorem dX5_isLetter_9 : decode cX5_isLetter 9 = .ok (.if_icmp .gt 7, 3) := by decide +kernel
theorem dX5_isLetter_12 : decode cX5_isLetter 12 = .ok (.iconst 1, 1) := by decide +kernel
theorem dX5_isLetter_13 : decode cX5_isLetter 13 = .ok (.goto 4, 3) := by decide +kernel
theorem dX5_isLetter_16 : decode cX5_isLetter 16 = .ok (.iconst 0, 1) := by decide +kernel
theorem dX5_isLetter_17 : decode cX5_isLetter 17 = .ok (.ireturn, 1) := by decide +kernel
theorem dX5_isDigit_0 : decode cX5_isDigit 0 = .ok (.iload_n 0, 1) := by decide +kernel
theorem dX5_isDigit_1 : decode cX5_isDigit 1 = .ok (.bipush 48, 2) := by decide +kernel
theorem dX5_isDigit_3 : decode cX5_isDigit 3 = .ok (.if_icmp .lt 13, 3) := by decide +kernel
theorem dX5_isDigit_6 : decode cX5_isDigit 6 = .ok (.iload_n 0, 1) := by decide +kernel
theorem dX5_isDigit_7 : decode cX5_isDigit 7 = .ok (.bipush 57, 2) := by decide +kernel
theorem dX5_isDigit_9 : decode cX5_isDigit 9 = .ok (.if_icmp .gt 7, 3) := by decide +kernel
theorem dX5_isDigit_12 : decode cX5_isDigit 12 = .ok (.iconst 1, 1) := by decide +kernel
theorem dX5_isDigit_13 : decode cX5_isDigit 13 = .ok (.goto 4, 3) := by decide +kernel
theorem dX5_isDigit_16 : decode cX5_isDigit 16 = .ok (.iconst 0, 1) := by decide +kernel
theorem dX5_isDigit_17 : decode cX5_isDigit 17 = .ok (.ireturn, 1) := by decide +kernel
theorem dX6_init_0 : decode cX6_init 0 = .ok (.aload_n 0, 1) := by decide +kernel
theorem dX6_init_1 : decode cX6_init 1 = .ok (.invokespecial 1, 3) := by decide +kernel
theorem dX6_init_4 : decode cX6_init 4 = .ok (.aload_n 0, 1) := by decide +kernel
theorem dX6_init_5 : decode cX6_init 5 = .ok (.new 7, 3) := by decide +kernel
theorem dX6_init_8 : decode cX6_init 8 = .ok (.dup, 1) := by decide +kernel
theorem dX6_init_9 : decode cX6_init 9 = .ok (.invokespecial 9, 3) := by decide +kernel
theorem dX6_init_12 : decode cX6_init 12 = .ok (.putfield 10, 3) := by decide +kernel
theorem dX6_init_15 : decode cX6_init 15 = .ok (.aload_n 0, 1) := by decide +kernel
theorem dX6_init_16 : decode cX6_init 16 = .ok (.new 16, 3) := by decide +kernel
theorem dX6_init_19 : decode cX6_init 19 = .ok (.dup, 1) := by decide +kernel
theorem dX6_init_20 : decode cX6_init 20 = .ok (.invokespecial 18, 3) := by decide +kernel
theorem dX6_init_23 : decode cX6_init 23 = .ok (.putfield 19, 3) := by decide +kernel
theorem dX6_init_26 : decode cX6_init 26 = .ok (.aload_n 0, 1) := by decide +kernel
theorem dX6_init_27 : decode cX6_init 27 = .ok (.new 16, 3) := by decide +kernel
theorem dX6_init_30 : decode cX6_init 30 = .ok (.dup, 1) := by decide +kernel
theorem dX6_init_31 : decode cX6_init 31 = .ok (.invokespecial 18, 3) := by decide +kernel
theorem dX6_init_34 : decode cX6_init 34 = .ok (.putfield 23, 3) := by decide +kernel
theorem dX6_init_37 : decode cX6_init 37 = .ok (.aload_n 0, 1) := by decide +kernel
theorem dX6_init_38 : decode cX6_init 38 = .ok (.new 26, 3) := by decide +kernel
theorem dX6_init_41 : decode cX6_init 41 = .ok (.dup, 1) := by decide +kernel
theorem dX6_init_42 : decode cX6_init 42 = .ok (.aload_n 0, 1) := by decide +kernel
theorem dX6_init_43 : decode cX6_init 43 = .ok (.getfield 10, 3) := by decide +kernel
theorem dX6_init_46 : decode cX6_init 46 = .ok (.aload_n 0, 1) := by decide +kernel
theorem dX6_init_47 : decode cX6_init 47 = .ok (.getfield 23, 3) := by decide +kernel
theorem dX6_init_50 : decode cX6_init 50 = .ok (.invokespecial 28, 3) := by decide +kernel
theorem dX6_init_53 : decode cX6_init 53 = .ok (.putfield 31, 3) := by decide +kernel
theorem dX6_init_56 : decode cX6_init 56 = .ok (.aload_n 0, 1) := by decide +kernel
theorem dX6_init_57 : decode cX6_init 57 = .ok (.new 35, 3) := by decide +kernel
theorem dX6_init_60 : decode cX6_init 60 = .ok (.dup, 1) := by decide +kernel
theorem dX6_init_61 : decode cX6_init 61 = .ok (.aload_n 0, 1) := by decide +kernel
theorem dX6_init_62 : decode cX6_init 62 = .ok (.getfield 19, 3) := by decide +kernel
theorem dX6_init_65 : decode cX6_init 65 = .ok (.invokespecial 37, 3) := by decide +kernel
theorem dX6_init_68 : decode cX6_init 68 = .ok (.putfield 40, 3) := by decide +kernel
theorem dX6_init_71 : decode cX6_init 71 = .ok (.aload_n 0, 1) := by decide +kernel
theorem dX6_init_72 : decode cX6_init 72 = .ok (.new 44, 3) := by decide +kernel
theorem dX6_init_75 : decode cX6_init 75 = .ok (.dup, 1) := by decide +kernel
theorem dX6_init_76 : decode cX6_init 76 = .ok (.invokespecial 46, 3) := by decide +kernel
theorem dX6_init_79 : decode cX6_init 79 = .ok (.putfield 47, 3) := by decide +kernel
theorem dX6_init_82 : decode cX6_init 82 = .ok (.aload_n 0, 1) := by decide +kernel
theorem dX6_init_83 : decode cX6_init 83 = .ok (.getfield 19, 3) := by decide +kernel
theorem dX6_init_86 : decode cX6_init 86 = .ok (.invokevirtual 51, 3) := by decide +kernel
theorem dX6_init_89 : decode cX6_init 89 = .ok (.aload_n 0, 1) := by decide +kernel
theorem dX6_init_90 : decode cX6_init 90 = .ok (.getfield 19, 3) := by decide +kernel
theorem dX6_init_93 : decode cX6_init 93 = .ok (.iconst 1, 1) := by decide +kernel
theorem dX6_init_94 : decode cX6_init 94 = .ok (.putfield 54, 3) := by decide +kernel
theorem dX6_init_97 : decode cX6_init 97 = .ok (.return_, 1) := by decide +kernel
theorem dX6_feed_0 : decode cX6_feed 0 = .ok (.aload_n 0, 1) := by decide +kernel
theorem dX6_feed_1 : decode cX6_feed 1 = .ok (.getfield 10, 3) := by decide +kernel
theorem dX6_feed_4 : decode cX6_feed 4 = .ok (.getfield 58, 3) := by decide +kernel
theorem dX6_feed_7 : decode cX6_feed 7 = .ok (.bipush 20, 2) := by decide +kernel
theorem dX6_feed_9 : decode cX6_feed 9 = .ok (.iadd, 1) := by decide +kernel
theorem dX6_feed_10 : decode cX6_feed 10 = .ok (.sipush 640, 3) := by decide +kernel
theorem dX6_feed_13 : decode cX6_feed 13 = .ok (.if_icmp .le 5, 3) := by decide +kernel
theorem dX6_feed_16 : decode cX6_feed 16 = .ok (.iconst (-1), 1) := by decide +kernel
theorem dX6_feed_17 : decode cX6_feed 17 = .ok (.ireturn, 1) := by decide +kernel
theorem dX6_feed_18 : decode cX6_feed 18 = .ok (.aload_n 0, 1) := by decide +kernel
theorem dX6_feed_19 : decode cX6_feed 19 = .ok (.getfield 10, 3) := by decide +kernel
theorem dX6_feed_22 : decode cX6_feed 22 = .ok (.iload_n 1, 1) := by decide +kernel
theorem dX6_feed_23 : decode cX6_feed 23 = .ok (.invokevirtual 61, 3) := by decide +kernel
theorem dX6_feed_26 : decode cX6_feed 26 = .ok (.aload_n 0, 1) := by decide +kernel
theorem dX6_feed_27 : decode cX6_feed 27 = .ok (.getfield 10, 3) := by decide +kernel
theorem dX6_feed_30 : decode cX6_feed 30 = .ok (.iload_n 2, 1) := by decide +kernel
theorem dX6_feed_31 : decode cX6_feed 31 = .ok (.invokevirtual 61, 3) := by decide +kernel
theorem dX6_feed_34 : decode cX6_feed 34 = .ok (.aload_n 0, 1) := by decide +kernel
theorem dX6_feed_35 : decode cX6_feed 35 = .ok (.getfield 10, 3) := by decide +kernel
theorem dX6_feed_38 : decode cX6_feed 38 = .ok (.iload_n 3, 1) := by decide +kernel
theorem dX6_feed_39 : decode cX6_feed 39 = .ok (.invokevirtual 61, 3) := by decide +kernel
theorem dX6_feed_42 : decode cX6_feed 42 = .ok (.aload_n 0, 1) := by decide +kernel
theorem dX6_feed_43 : decode cX6_feed 43 = .ok (.getfield 10, 3) := by decide +kernel
theorem dX6_feed_46 : decode cX6_feed 46 = .ok (.iload 4, 2) := by decide +kernel
theorem dX6_feed_48 : decode cX6_feed 48 = .ok (.invokevirtual 61, 3) := by decide +kernel
theorem dX6_feed_51 : decode cX6_feed 51 = .ok (.aload_n 0, 1) := by decide +kernel
theorem dX6_feed_52 : decode cX6_feed 52 = .ok (.getfield 10, 3) := by decide +kernel
theorem dX6_feed_55 : decode cX6_feed 55 = .ok (.iload 5, 2) := by decide +kernel
theorem dX6_feed_57 : decode cX6_feed 57 = .ok (.invokevirtual 61, 3) := by decide +kernel
theorem dX6_feed_60 : decode cX6_feed 60 = .ok (.aload_n 0, 1) := by decide +kernel
theorem dX6_feed_61 : decode cX6_feed 61 = .ok (.getfield 10, 3) := by decide +kernel
theorem dX6_feed_64 : decode cX6_feed 64 = .ok (.getfield 58, 3) := by decide +kernel
theorem dX6_feed_67 : decode cX6_feed 67 = .ok (.ireturn, 1) := by decide +kernel
theorem dX6_end_0 : decode cX6_end 0 = .ok (.iload_n 1, 1) := by decide +kernel
theorem dX6_end_1 : decode cX6_end 1 = .ok (.ifCond .lt 14, 3) := by decide +kernel
theorem dX6_end_4 : decode cX6_end 4 = .ok (.iload_n 1, 1) := by decide +kernel
theorem dX6_end_5 : decode cX6_end 5 = .ok (.aload_n 0, 1) := by decide +kernel
theorem dX6_end_6 : decode cX6_end 6 = .ok (.getfield 10, 3) := by decide +kernel
theorem dX6_end_9 : decode cX6_end 9 = .ok (.getfield 58, 3) := by decide +kernel
theorem dX6_end_12 : decode cX6_end 12 = .ok (.if_icmp .le 5, 3) := by decide +kernel
theorem dX6_end_15 : decode cX6_end 15 = .ok (.iconst 0, 1) := by decide +kernel
theorem dX6_end_16 : decode cX6_end 16 = .ok (.ireturn, 1) := by decide +kernel
theorem dX6_end_17 : decode cX6_end 17 = .ok (.aload_n 0, 1) := by decide +kernel
theorem dX6_end_18 : decode cX6_end 18 = .ok (.getfield 10, 3) := by decide +kernel
theorem dX6_end_21 : decode cX6_end 21 = .ok (.iload_n 1, 1) := by decide +kernel
theorem dX6_end_22 : decode cX6_end 22 = .ok (.putfield 58, 3) := by decide +kernel
theorem dX6_end_25 : decode cX6_end 25 = .ok (.iconst 1, 1) := by decide +kernel
theorem dX6_end_26 : decode cX6_end 26 = .ok (.ireturn, 1) := by decide +kernel
theorem dX6_text_0 : decode cX6_text 0 = .ok (.aload_n 0, 1) := by decide +kernel
theorem dX6_text_1 : decode cX6_text 1 = .ok (.getfield 31, 3) := by decide +kernel
theorem dX6_text_4 : decode cX6_text 4 = .ok (.invokevirtual 65, 3) := by decide +kernel
theorem dX6_text_7 : decode cX6_text 7 = .ok (.istore_n 1, 1) := by decide +kernel
theorem dX6_text_8 : decode cX6_text 8 = .ok (.aload_n 0, 1) := by decide +kernel
theorem dX6_text_9 : decode cX6_text 9 = .ok (.getfield 10, 3) := by decide +kernel
theorem dX6_text_12 : decode cX6_text 12 = .ok (.iconst 0, 1) := by decide +kernel
theorem dX6_text_13 : decode cX6_text 13 = .ok (.putfield 58, 3) := by decide +kernel
theorem dX6_text_16 : decode cX6_text 16 = .ok (.iload_n 1, 1) := by decide +kernel
theorem dX6_text_17 : decode cX6_text 17 = .ok (.ifCond .ne 13, 3) := by decide +kernel
theorem dX6_text_20 : decode cX6_text 20 = .ok (.iconst (-1), 1) := by decide +kernel
theorem dX6_text_21 : decode cX6_text 21 = .ok (.aload_n 0, 1) := by decide +kernel
theorem dX6_text_22 : decode cX6_text 22 = .ok (.getfield 31, 3) := by decide +kernel
theorem dX6_text_25 : decode cX6_text 25 = .ok (.getfield 69, 3) := by decide +kernel
theorem dX6_text_28 : decode cX6_text 28 = .ok (.isub, 1) := by decide +kernel
theorem dX6_text_29 : decode cX6_text 29 = .ok (.ireturn, 1) := by decide +kernel
theorem dX6_text_30 : decode cX6_text 30 = .ok (.aload_n 0, 1) := by decide +kernel
theorem dX6_text_31 : decode cX6_text 31 = .ok (.getfield 19, 3) := by decide +kernel
theorem dX6_text_34 : decode cX6_text 34 = .ok (.aload_n 0, 1) := by decide +kernel
theorem dX6_text_35 : decode cX6_text 35 = .ok (.getfield 23, 3) := by decide +kernel
theorem dX6_text_38 : decode cX6_text 38 = .ok (.invokevirtual 72, 3) := by decide +kernel
theorem dX6_text_41 : decode cX6_text 41 = .ok (.aload_n 0, 1) := by decide +kernel
theorem dX6_text_42 : decode cX6_text 42 = .ok (.getfield 47, 3) := by decide +kernel
theorem dX6_text_45 : decode cX6_text 45 = .ok (.invokevirtual 75, 3) := by decide +kernel
theorem dX6_text_48 : decode cX6_text 48 = .ok (.aload_n 0, 1) := by decide +kernel
theorem dX6_text_49 : decode cX6_text 49 = .ok (.getfield 31, 3) := by decide +kernel
theorem dX6_text_52 : decode cX6_text 52 = .ok (.getfield 78, 3) := by decide +kernel
theorem dX6_text_55 : decode cX6_text 55 = .ok (.ireturn, 1) := by decide +kernel
theorem dX6_fault_0 : decode cX6_fault 0 = .ok (.aload_n 0, 1) := by decide +kernel
theorem dX6_fault_1 : decode cX6_fault 1 = .ok (.getfield 31, 3) := by decide +kernel
theorem dX6_fault_4 : decode cX6_fault 4 = .ok (.getfield 81, 3) := by decide +kernel
theorem dX6_fault_7 : decode cX6_fault 7 = .ok (.ireturn, 1) := by decide +kernel
theorem dX6_now_0 : decode cX6_now 0 = .ok (.iload_n 1, 1) := by decide +kernel
theorem dX6_now_1 : decode cX6_now 1 = .ok (.tableswitch 159 0 11 #[63, 71, 79, 87, 95, 103, 111, 119, 127, 135, 143, 151], 63) := by decide +kernel
theorem dX6_now_64 : decode cX6_now 64 = .ok (.aload_n 0, 1) := by decide +kernel
theorem dX6_now_65 : decode cX6_now 65 = .ok (.getfield 19, 3) := by decide +kernel
theorem dX6_now_68 : decode cX6_now 68 = .ok (.getfield 84, 3) := by decide +kernel
theorem dX6_now_71 : decode cX6_now 71 = .ok (.ireturn, 1) := by decide +kernel
theorem dX6_now_72 : decode cX6_now 72 = .ok (.aload_n 0, 1) := by decide +kernel
theorem dX6_now_73 : decode cX6_now 73 = .ok (.getfield 19, 3) := by decide +kernel
theorem dX6_now_76 : decode cX6_now 76 = .ok (.getfield 54, 3) := by decide +kernel
theorem dX6_now_79 : decode cX6_now 79 = .ok (.ireturn, 1) := by decide +kernel
theorem dX6_now_80 : decode cX6_now 80 = .ok (.aload_n 0, 1) := by decide +kernel
theorem dX6_now_81 : decode cX6_now 81 = .ok (.getfield 19, 3) := by decide +kernel
theorem dX6_now_84 : decode cX6_now 84 = .ok (.getfield 87, 3) := by decide +kernel
theorem dX6_now_87 : decode cX6_now 87 = .ok (.ireturn, 1) := by decide +kernel
theorem dX6_now_88 : decode cX6_now 88 = .ok (.aload_n 0, 1) := by decide +kernel
theorem dX6_now_89 : decode cX6_now 89 = .ok (.getfield 19, 3) := by decide +kernel
theorem dX6_now_92 : decode cX6_now 92 = .ok (.getfield 90, 3) := by decide +kernel
theorem dX6_now_95 : decode cX6_now 95 = .ok (.ireturn, 1) := by decide +kernel
theorem dX6_now_96 : decode cX6_now 96 = .ok (.aload_n 0, 1) := by decide +kernel
theorem dX6_now_97 : decode cX6_now 97 = .ok (.getfield 19, 3) := by decide +kernel
theorem dX6_now_100 : decode cX6_now 100 = .ok (.getfield 93, 3) := by decide +kernel
theorem dX6_now_103 : decode cX6_now 103 = .ok (.ireturn, 1) := by decide +kernel
theorem dX6_now_104 : decode cX6_now 104 = .ok (.aload_n 0, 1) := by decide +kernel
theorem dX6_now_105 : decode cX6_now 105 = .ok (.getfield 19, 3) := by decide +kernel
theorem dX6_now_108 : decode cX6_now 108 = .ok (.invokevirtual 96, 3) := by decide +kernel
theorem dX6_now_111 : decode cX6_now 111 = .ok (.ireturn, 1) := by decide +kernel
theorem dX6_now_112 : decode cX6_now 112 = .ok (.aload_n 0, 1) := by decide +kernel
theorem dX6_now_113 : decode cX6_now 113 = .ok (.getfield 19, 3) := by decide +kernel
theorem dX6_now_116 : decode cX6_now 116 = .ok (.invokevirtual 100, 3) := by decide +kernel
theorem dX6_now_119 : decode cX6_now 119 = .ok (.ireturn, 1) := by decide +kernel
theorem dX6_now_120 : decode cX6_now 120 = .ok (.aload_n 0, 1) := by decide +kernel
theorem dX6_now_121 : decode cX6_now 121 = .ok (.getfield 19, 3) := by decide +kernel
theorem dX6_now_124 : decode cX6_now 124 = .ok (.invokevirtual 103, 3) := by decide +kernel
theorem dX6_now_127 : decode cX6_now 127 = .ok (.ireturn, 1) := by decide +kernel
theorem dX6_now_128 : decode cX6_now 128 = .ok (.aload_n 0, 1) := by decide +kernel
theorem dX6_now_129 : decode cX6_now 129 = .ok (.getfield 19, 3) := by decide +kernel
theorem dX6_now_132 : decode cX6_now 132 = .ok (.getfield 106, 3) := by decide +kernel
theorem dX6_now_135 : decode cX6_now 135 = .ok (.ireturn, 1) := by decide +kernel
theorem dX6_now_136 : decode cX6_now 136 = .ok (.aload_n 0, 1) := by decide +kernel
theorem dX6_now_137 : decode cX6_now 137 = .ok (.getfield 19, 3) := by decide +kernel
theorem dX6_now_140 : decode cX6_now 140 = .ok (.getfield 109, 3) := by decide +kernel
theorem dX6_now_143 : decode cX6_now 143 = .ok (.ireturn, 1) := by decide +kernel
theorem dX6_now_144 : decode cX6_now 144 = .ok (.aload_n 0, 1) := by decide +kernel
theorem dX6_now_145 : decode cX6_now 145 = .ok (.getfield 47, 3) := by decide +kernel
theorem dX6_now_148 : decode cX6_now 148 = .ok (.getfield 112, 3) := by decide +kernel
theorem dX6_now_151 : decode cX6_now 151 = .ok (.ireturn, 1) := by decide +kernel
theorem dX6_now_152 : decode cX6_now 152 = .ok (.aload_n 0, 1) := by decide +kernel
theorem dX6_now_153 : decode cX6_now 153 = .ok (.getfield 10, 3) := by decide +kernel
theorem dX6_now_156 : decode cX6_now 156 = .ok (.getfield 58, 3) := by decide +kernel
theorem dX6_now_159 : decode cX6_now 159 = .ok (.ireturn, 1) := by decide +kernel
theorem dX6_now_160 : decode cX6_now 160 = .ok (.iconst (-1), 1) := by decide +kernel
theorem dX6_now_161 : decode cX6_now 161 = .ok (.ireturn, 1) := by decide +kernel
theorem dX6_lot_0 : decode cX6_lot 0 = .ok (.aload_n 0, 1) := by decide +kernel
theorem dX6_lot_1 : decode cX6_lot 1 = .ok (.getfield 19, 3) := by decide +kernel
theorem dX6_lot_4 : decode cX6_lot 4 = .ok (.iload_n 1, 1) := by decide +kernel
theorem dX6_lot_5 : decode cX6_lot 5 = .ok (.invokevirtual 115, 3) := by decide +kernel
theorem dX6_lot_8 : decode cX6_lot 8 = .ok (.ifCond .ne 13, 3) := by decide +kernel
theorem dX6_lot_11 : decode cX6_lot 11 = .ok (.new 119, 3) := by decide +kernel
theorem dX6_lot_14 : decode cX6_lot 14 = .ok (.dup, 1) := by decide +kernel
theorem dX6_lot_15 : decode cX6_lot 15 = .ok (.ldc 121, 2) := by decide +kernel
theorem dX6_lot_17 : decode cX6_lot 17 = .ok (.invokespecial 123, 3) := by decide +kernel
theorem dX6_lot_20 : decode cX6_lot 20 = .ok (.athrow, 1) := by decide +kernel
theorem dX6_lot_21 : decode cX6_lot 21 = .ok (.iload_n 2, 1) := by decide +kernel
theorem dX6_lot_22 : decode cX6_lot 22 = .ok (.tableswitch 83 0 4 #[34, 44, 54, 64, 74], 34) := by decide +kernel
theorem dX6_lot_56 : decode cX6_lot 56 = .ok (.aload_n 0, 1) := by decide +kernel
theorem dX6_lot_57 : decode cX6_lot 57 = .ok (.getfield 19, 3) := by decide +kernel
theorem dX6_lot_60 : decode cX6_lot 60 = .ok (.getfield 126, 3) := by decide +kernel
theorem dX6_lot_63 : decode cX6_lot 63 = .ok (.iload_n 1, 1) := by decide +kernel
theorem dX6_lot_64 : decode cX6_lot 64 = .ok (.iaload, 1) := by decide +kernel
theorem dX6_lot_65 : decode cX6_lot 65 = .ok (.ireturn, 1) := by decide +kernel
theorem dX6_lot_66 : decode cX6_lot 66 = .ok (.aload_n 0, 1) := by decide +kernel
theorem dX6_lot_67 : decode cX6_lot 67 = .ok (.getfield 19, 3) := by decide +kernel
theorem dX6_lot_70 : decode cX6_lot 70 = .ok (.getfield 130, 3) := by decide +kernel
theorem dX6_lot_73 : decode cX6_lot 73 = .ok (.iload_n 1, 1) := by decide +kernel
theorem dX6_lot_74 : decode cX6_lot 74 = .ok (.iaload, 1) := by decide +kernel
theorem dX6_lot_75 : decode cX6_lot 75 = .ok (.ireturn, 1) := by decide +kernel
theorem dX6_lot_76 : decode cX6_lot 76 = .ok (.aload_n 0, 1) := by decide +kernel
theorem dX6_lot_77 : decode cX6_lot 77 = .ok (.getfield 19, 3) := by decide +kernel
theorem dX6_lot_80 : decode cX6_lot 80 = .ok (.getfield 133, 3) := by decide +kernel
theorem dX6_lot_83 : decode cX6_lot 83 = .ok (.iload_n 1, 1) := by decide +kernel
theorem dX6_lot_84 : decode cX6_lot 84 = .ok (.iaload, 1) := by decide +kernel
theorem dX6_lot_85 : decode cX6_lot 85 = .ok (.ireturn, 1) := by decide +kernel
theorem dX6_lot_86 : decode cX6_lot 86 = .ok (.aload_n 0, 1) := by decide +kernel
theorem dX6_lot_87 : decode cX6_lot 87 = .ok (.getfield 19, 3) := by decide +kernel
theorem dX6_lot_90 : decode cX6_lot 90 = .ok (.getfield 136, 3) := by decide +kernel
theorem dX6_lot_93 : decode cX6_lot 93 = .ok (.iload_n 1, 1) := by decide +kernel
theorem dX6_lot_94 : decode cX6_lot 94 = .ok (.iaload, 1) := by decide +kernel
theorem dX6_lot_95 : decode cX6_lot 95 = .ok (.ireturn, 1) := by decide +kernel
theorem dX6_lot_96 : decode cX6_lot 96 = .ok (.aload_n 0, 1) := by decide +kernel
theorem dX6_lot_97 : decode cX6_lot 97 = .ok (.getfield 19, 3) := by decide +kernel
theorem dX6_lot_100 : decode cX6_lot 100 = .ok (.iload_n 1, 1) := by decide +kernel
theorem dX6_lot_101 : decode cX6_lot 101 = .ok (.invokevirtual 139, 3) := by decide +kernel
theorem dX6_lot_104 : decode cX6_lot 104 = .ok (.ireturn, 1) := by decide +kernel
theorem dX6_lot_105 : decode cX6_lot 105 = .ok (.new 119, 3) := by decide +kernel
theorem dX6_lot_108 : decode cX6_lot 108 = .ok (.dup, 1) := by decide +kernel
theorem dX6_lot_109 : decode cX6_lot 109 = .ok (.ldc 143, 2) := by decide +kernel
theorem dX6_lot_111 : decode cX6_lot 111 = .ok (.invokespecial 123, 3) := by decide +kernel
theorem dX6_lot_114 : decode cX6_lot 114 = .ok (.athrow, 1) := by decide +kernel
theorem dX6_order_0 : decode cX6_order 0 = .ok (.aload_n 0, 1) := by decide +kernel
theorem dX6_order_1 : decode cX6_order 1 = .ok (.getfield 19, 3) := by decide +kernel
theorem dX6_order_4 : decode cX6_order 4 = .ok (.iload_n 1, 1) := by decide +kernel
theorem dX6_order_5 : decode cX6_order 5 = .ok (.invokevirtual 145, 3) := by decide +kernel
theorem dX6_order_8 : decode cX6_order 8 = .ok (.ifCond .ne 13, 3) := by decide +kernel
theorem dX6_order_11 : decode cX6_order 11 = .ok (.new 119, 3) := by decide +kernel
theorem dX6_order_14 : decode cX6_order 14 = .ok (.dup, 1) := by decide +kernel
theorem dX6_order_15 : decode cX6_order 15 = .ok (.ldc 148, 2) := by decide +kernel
theorem dX6_order_17 : decode cX6_order 17 = .ok (.invokespecial 123, 3) := by decide +kernel
theorem dX6_order_20 : decode cX6_order 20 = .ok (.athrow, 1) := by decide +kernel
theorem dX6_order_21 : decode cX6_order 21 = .ok (.iload_n 2, 1) := by decide +kernel
theorem dX6_order_22 : decode cX6_order 22 = .ok (.tableswitch 111 0 6 #[42, 52, 62, 72, 82, 92, 101], 42) := by decide +kernel
theorem dX6_order_64 : decode cX6_order 64 = .ok (.aload_n 0, 1) := by decide +kernel
theorem dX6_order_65 : decode cX6_order 65 = .ok (.getfield 19, 3) := by decide +kernel
theorem dX6_order_68 : decode cX6_order 68 = .ok (.getfield 150, 3) := by decide +kernel
theorem dX6_order_71 : decode cX6_order 71 = .ok (.iload_n 1, 1) := by decide +kernel
theorem dX6_order_72 : decode cX6_order 72 = .ok (.iaload, 1) := by decide +kernel
theorem dX6_order_73 : decode cX6_order 73 = .ok (.ireturn, 1) := by decide +kernel
theorem dX6_order_74 : decode cX6_order 74 = .ok (.aload_n 0, 1) := by decide +kernel
theorem dX6_order_75 : decode cX6_order 75 = .ok (.getfield 19, 3) := by decide +kernel
theorem dX6_order_78 : decode cX6_order 78 = .ok (.getfield 153, 3) := by decide +kernel
theorem dX6_order_81 : decode cX6_order 81 = .ok (.iload_n 1, 1) := by decide +kernel
theorem dX6_order_82 : decode cX6_order 82 = .ok (.iaload, 1) := by decide +kernel
theorem dX6_order_83 : decode cX6_order 83 = .ok (.ireturn, 1) := by decide +kernel
theorem dX6_order_84 : decode cX6_order 84 = .ok (.aload_n 0, 1) := by decide +kernel
theorem dX6_order_85 : decode cX6_order 85 = .ok (.getfield 19, 3) := by decide +kernel
theorem dX6_order_88 : decode cX6_order 88 = .ok (.getfield 156, 3) := by decide +kernel
theorem dX6_order_91 : decode cX6_order 91 = .ok (.iload_n 1, 1) := by decide +kernel
theorem dX6_order_92 : decode cX6_order 92 = .ok (.iaload, 1) := by decide +kernel
theorem dX6_order_93 : decode cX6_order 93 = .ok (.ireturn, 1) := by decide +kernel
theorem dX6_order_94 : decode cX6_order 94 = .ok (.aload_n 0, 1) := by decide +kernel
theorem dX6_order_95 : decode cX6_order 95 = .ok (.getfield 19, 3) := by decide +kernel
theorem dX6_order_98 : decode cX6_order 98 = .ok (.getfield 159, 3) := by decide +kernel
theorem dX6_order_101 : decode cX6_order 101 = .ok (.iload_n 1, 1) := by decide +kernel
theorem dX6_order_102 : decode cX6_order 102 = .ok (.iaload, 1) := by decide +kernel
theorem dX6_order_103 : decode cX6_order 103 = .ok (.ireturn, 1) := by decide +kernel
theorem dX6_order_104 : decode cX6_order 104 = .ok (.aload_n 0, 1) := by decide +kernel
theorem dX6_order_105 : decode cX6_order 105 = .ok (.getfield 19, 3) := by decide +kernel
theorem dX6_order_108 : decode cX6_order 108 = .ok (.getfield 162, 3) := by decide +kernel
theorem dX6_order_111 : decode cX6_order 111 = .ok (.iload_n 1, 1) := by decide +kernel
theorem dX6_order_112 : decode cX6_order 112 = .ok (.iaload, 1) := by decide +kernel
theorem dX6_order_113 : decode cX6_order 113 = .ok (.ireturn, 1) := by decide +kernel
theorem dX6_order_114 : decode cX6_order 114 = .ok (.aload_n 0, 1) := by decide +kernel
theorem dX6_order_115 : decode cX6_order 115 = .ok (.getfield 19, 3) := by decide +kernel
theorem dX6_order_118 : decode cX6_order 118 = .ok (.iload_n 1, 1) := by decide +kernel
theorem dX6_order_119 : decode cX6_order 119 = .ok (.invokevirtual 165, 3) := by decide +kernel
theorem dX6_order_122 : decode cX6_order 122 = .ok (.ireturn, 1) := by decide +kernel
theorem dX6_order_123 : decode cX6_order 123 = .ok (.aload_n 0, 1) := by decide +kernel
theorem dX6_order_124 : decode cX6_order 124 = .ok (.getfield 19, 3) := by decide +kernel
theorem dX6_order_127 : decode cX6_order 127 = .ok (.getfield 168, 3) := by decide +kernel
theorem dX6_order_130 : decode cX6_order 130 = .ok (.iload_n 1, 1) := by decide +kernel
theorem dX6_order_131 : decode cX6_order 131 = .ok (.iaload, 1) := by decide +kernel
theorem dX6_order_132 : decode cX6_order 132 = .ok (.ireturn, 1) := by decide +kernel
theorem dX6_order_133 : decode cX6_order 133 = .ok (.new 119, 3) := by decide +kernel
theorem dX6_order_136 : decode cX6_order 136 = .ok (.dup, 1) := by decide +kernel
theorem dX6_order_137 : decode cX6_order 137 = .ok (.ldc 171, 2) := by decide +kernel
theorem dX6_order_139 : decode cX6_order 139 = .ok (.invokespecial 123, 3) := by decide +kernel
theorem dX6_order_142 : decode cX6_order 142 = .ok (.athrow, 1) := by decide +kernel
theorem dX6_reserved_0 : decode cX6_reserved 0 = .ok (.aload_n 0, 1) := by decide +kernel
theorem dX6_reserved_1 : decode cX6_reserved 1 = .ok (.getfield 19, 3) := by decide +kernel
theorem dX6_reserved_4 : decode cX6_reserved 4 = .ok (.iload_n 1, 1) := by decide +kernel
theorem dX6_reserved_5 : decode cX6_reserved 5 = .ok (.invokevirtual 115, 3) := by decide +kernel
theorem dX6_reserved_8 : decode cX6_reserved 8 = .ok (.ifCond .eq 14, 3) := by decide +kernel
theorem dX6_reserved_11 : decode cX6_reserved 11 = .ok (.aload_n 0, 1) := by decide +kernel
theorem dX6_reserved_12 : decode cX6_reserved 12 = .ok (.getfield 19, 3) := by decide +kernel
theorem dX6_reserved_15 : decode cX6_reserved 15 = .ok (.iload_n 2, 1) := by decide +kernel
theorem dX6_reserved_16 : decode cX6_reserved 16 = .ok (.invokevirtual 145, 3) := by decide +kernel
theorem dX6_reserved_19 : decode cX6_reserved 19 = .ok (.ifCond .ne 5, 3) := by decide +kernel
theorem dX6_reserved_22 : decode cX6_reserved 22 = .ok (.iconst (-1), 1) := by decide +kernel
theorem dX6_reserved_23 : decode cX6_reserved 23 = .ok (.ireturn, 1) := by decide +kernel
theorem dX6_reserved_24 : decode cX6_reserved 24 = .ok (.aload_n 0, 1) := by decide +kernel
theorem dX6_reserved_25 : decode cX6_reserved 25 = .ok (.getfield 19, 3) := by decide +kernel
theorem dX6_reserved_28 : decode cX6_reserved 28 = .ok (.iload_n 1, 1) := by decide +kernel
theorem dX6_reserved_29 : decode cX6_reserved 29 = .ok (.iload_n 2, 1) := by decide +kernel
theorem dX6_reserved_30 : decode cX6_reserved 30 = .ok (.invokevirtual 173, 3) := by decide +kernel
theorem dX6_reserved_33 : decode cX6_reserved 33 = .ok (.ireturn, 1) := by decide +kernel
theorem dX6_customer_0 : decode cX6_customer 0 = .ok (.aload_n 0, 1) := by decide +kernel
theorem dX6_customer_1 : decode cX6_customer 1 = .ok (.getfield 19, 3) := by decide +kernel
theorem dX6_customer_4 : decode cX6_customer 4 = .ok (.iload_n 1, 1) := by decide +kernel
theorem dX6_customer_5 : decode cX6_customer 5 = .ok (.invokevirtual 177, 3) := by decide +kernel
theorem dX6_customer_8 : decode cX6_customer 8 = .ok (.ifCond .ne 5, 3) := by decide +kernel
theorem dX6_customer_11 : decode cX6_customer 11 = .ok (.iconst (-1), 1) := by decide +kernel
theorem dX6_customer_12 : decode cX6_customer 12 = .ok (.ireturn, 1) := by decide +kernel
theorem dX6_customer_13 : decode cX6_customer 13 = .ok (.iload_n 2, 1) := by decide +kernel
theorem dX6_customer_14 : decode cX6_customer 14 = .ok (.iconst (-1), 1) := by decide +kernel
theorem dX6_customer_15 : decode cX6_customer 15 = .ok (.if_icmp .ne 13, 3) := by decide +kernel
theorem dX6_customer_18 : decode cX6_customer 18 = .ok (.aload_n 0, 1) := by decide +kernel
theorem dX6_customer_19 : decode cX6_customer 19 = .ok (.getfield 19, 3) := by decide +kernel
theorem dX6_customer_22 : decode cX6_customer 22 = .ok (.getfield 180, 3) := by decide +kernel
theorem dX6_customer_25 : decode cX6_customer 25 = .ok (.iload_n 1, 1) := by decide +kernel
theorem dX6_customer_26 : decode cX6_customer 26 = .ok (.iaload, 1) := by decide +kernel
theorem dX6_customer_27 : decode cX6_customer 27 = .ok (.ireturn, 1) := by decide +kernel
theorem dX6_customer_28 : decode cX6_customer 28 = .ok (.aload_n 0, 1) := by decide +kernel
theorem dX6_customer_29 : decode cX6_customer 29 = .ok (.getfield 19, 3) := by decide +kernel
theorem dX6_customer_32 : decode cX6_customer 32 = .ok (.iload_n 2, 1) := by decide +kernel
theorem dX6_customer_33 : decode cX6_customer 33 = .ok (.invokevirtual 183, 3) := by decide +kernel
theorem dX6_customer_36 : decode cX6_customer 36 = .ok (.ifCond .eq 15, 3) := by decide +kernel
theorem dX6_customer_39 : decode cX6_customer 39 = .ok (.aload_n 0, 1) := by decide +kernel
theorem dX6_customer_40 : decode cX6_customer 40 = .ok (.getfield 19, 3) := by decide +kernel
theorem dX6_customer_43 : decode cX6_customer 43 = .ok (.iload_n 1, 1) := by decide +kernel
theorem dX6_customer_44 : decode cX6_customer 44 = .ok (.iload_n 2, 1) := by decide +kernel
theorem dX6_customer_45 : decode cX6_customer 45 = .ok (.invokevirtual 186, 3) := by decide +kernel
theorem dX6_customer_48 : decode cX6_customer 48 = .ok (.goto 4, 3) := by decide +kernel
theorem dX6_customer_51 : decode cX6_customer 51 = .ok (.iconst (-1), 1) := by decide +kernel
theorem dX6_customer_52 : decode cX6_customer 52 = .ok (.ireturn, 1) := by decide +kernel
theorem dX6_suits_0 : decode cX6_suits 0 = .ok (.aload_n 0, 1) := by decide +kernel
theorem dX6_suits_1 : decode cX6_suits 1 = .ok (.getfield 19, 3) := by decide +kernel
theorem dX6_suits_4 : decode cX6_suits 4 = .ok (.iload_n 1, 1) := by decide +kernel
theorem dX6_suits_5 : decode cX6_suits 5 = .ok (.invokevirtual 115, 3) := by decide +kernel
theorem dX6_suits_8 : decode cX6_suits 8 = .ok (.ifCond .eq 30, 3) := by decide +kernel
theorem dX6_suits_11 : decode cX6_suits 11 = .ok (.aload_n 0, 1) := by decide +kernel
theorem dX6_suits_12 : decode cX6_suits 12 = .ok (.getfield 19, 3) := by decide +kernel
theorem dX6_suits_15 : decode cX6_suits 15 = .ok (.iload_n 2, 1) := by decide +kernel
theorem dX6_suits_16 : decode cX6_suits 16 = .ok (.invokevirtual 189, 3) := by decide +kernel
theorem dX6_suits_19 : decode cX6_suits 19 = .ok (.ifCond .eq 19, 3) := by decide +kernel
theorem dX6_suits_22 : decode cX6_suits 22 = .ok (.aload_n 0, 1) := by decide +kernel
theorem dX6_suits_23 : decode cX6_suits 23 = .ok (.getfield 19, 3) := by decide +kernel
theorem dX6_suits_26 : decode cX6_suits 26 = .ok (.iload_n 1, 1) := by decide +kernel
theorem dX6_suits_27 : decode cX6_suits 27 = .ok (.iload_n 2, 1) := by decide +kernel
theorem dX6_suits_28 : decode cX6_suits 28 = .ok (.invokevirtual 192, 3) := by decide +kernel
theorem dX6_suits_31 : decode cX6_suits 31 = .ok (.ifCond .eq 7, 3) := by decide +kernel
theorem dX6_suits_34 : decode cX6_suits 34 = .ok (.iconst 1, 1) := by decide +kernel
theorem dX6_suits_35 : decode cX6_suits 35 = .ok (.goto 4, 3) := by decide +kernel
theorem dX6_suits_38 : decode cX6_suits 38 = .ok (.iconst 0, 1) := by decide +kernel
theorem dX6_suits_39 : decode cX6_suits 39 = .ok (.ireturn, 1) := by decide +kernel
theorem dX6_plan_0 : decode cX6_plan 0 = .ok (.iload_n 1, 1) := by decide +kernel
theorem dX6_plan_1 : decode cX6_plan 1 = .ok (.iconst (-1), 1) := by decide +kernel
theorem dX6_plan_2 : decode cX6_plan 2 = .ok (.if_icmp .ne 7, 3) := by decide +kernel
theorem dX6_plan_5 : decode cX6_plan 5 = .ok (.iconst 1, 1) := by decide +kernel
theorem dX6_plan_6 : decode cX6_plan 6 = .ok (.goto 4, 3) := by decide +kernel
theorem dX6_plan_9 : decode cX6_plan 9 = .ok (.iconst 0, 1) := by decide +kernel
theorem dX6_plan_10 : decode cX6_plan 10 = .ok (.istore_n 3, 1) := by decide +kernel
theorem dX6_plan_11 : decode cX6_plan 11 = .ok (.aload_n 0, 1) := by decide +kernel
theorem dX6_plan_12 : decode cX6_plan 12 = .ok (.getfield 19, 3) := by decide +kernel
theorem dX6_plan_15 : decode cX6_plan 15 = .ok (.iload_n 2, 1) := by decide +kernel
theorem dX6_plan_16 : decode cX6_plan 16 = .ok (.invokevirtual 189, 3) := by decide +kernel
theorem dX6_plan_19 : decode cX6_plan 19 = .ok (.ifCond .eq 18, 3) := by decide +kernel
theorem dX6_plan_22 : decode cX6_plan 22 = .ok (.iload_n 3, 1) := by decide +kernel
theorem dX6_plan_23 : decode cX6_plan 23 = .ok (.ifCond .ne 16, 3) := by decide +kernel
theorem dX6_plan_26 : decode cX6_plan 26 = .ok (.aload_n 0, 1) := by decide +kernel
theorem dX6_plan_27 : decode cX6_plan 27 = .ok (.getfield 19, 3) := by decide +kernel
theorem dX6_plan_30 : decode cX6_plan 30 = .ok (.iload_n 1, 1) := by decide +kernel
theorem dX6_plan_31 : decode cX6_plan 31 = .ok (.invokevirtual 115, 3) := by decide +kernel
theorem dX6_plan_34 : decode cX6_plan 34 = .ok (.ifCond .ne 5, 3) := by decide +kernel
theorem dX6_plan_37 : decode cX6_plan 37 = .ok (.iconst (-1), 1) := by decide +kernel
theorem dX6_plan_38 : decode cX6_plan 38 = .ok (.ireturn, 1) := by decide +kernel
theorem dX6_plan_39 : decode cX6_plan 39 = .ok (.aload_n 0, 1) := by decide +kernel
theorem dX6_plan_40 : decode cX6_plan 40 = .ok (.getfield 40, 3) := by decide +kernel
theorem dX6_plan_43 : decode cX6_plan 43 = .ok (.aload_n 0, 1) := by decide +kernel
theorem dX6_plan_44 : decode cX6_plan 44 = .ok (.getfield 19, 3) := by decide +kernel
theorem dX6_plan_47 : decode cX6_plan 47 = .ok (.aload_n 0, 1) := by decide +kernel
theorem dX6_plan_48 : decode cX6_plan 48 = .ok (.getfield 19, 3) := by decide +kernel
theorem dX6_plan_51 : decode cX6_plan 51 = .ok (.getfield 153, 3) := by decide +kernel
theorem dX6_plan_54 : decode cX6_plan 54 = .ok (.iload_n 2, 1) := by decide +kernel
theorem dX6_plan_55 : decode cX6_plan 55 = .ok (.iaload, 1) := by decide +kernel
theorem dX6_plan_56 : decode cX6_plan 56 = .ok (.invokevirtual 196, 3) := by decide +kernel
theorem dX6_plan_59 : decode cX6_plan 59 = .ok (.iload_n 3, 1) := by decide +kernel
theorem dX6_plan_60 : decode cX6_plan 60 = .ok (.ifCond .eq 14, 3) := by decide +kernel
theorem dX6_plan_63 : decode cX6_plan 63 = .ok (.aload_n 0, 1) := by decide +kernel
theorem dX6_plan_64 : decode cX6_plan 64 = .ok (.getfield 40, 3) := by decide +kernel
theorem dX6_plan_67 : decode cX6_plan 67 = .ok (.iload_n 2, 1) := by decide +kernel
theorem dX6_plan_68 : decode cX6_plan 68 = .ok (.invokevirtual 200, 3) := by decide +kernel
theorem dX6_plan_71 : decode cX6_plan 71 = .ok (.goto 12, 3) := by decide +kernel
theorem dX6_plan_74 : decode cX6_plan 74 = .ok (.aload_n 0, 1) := by decide +kernel
theorem dX6_plan_75 : decode cX6_plan 75 = .ok (.getfield 40, 3) := by decide +kernel
theorem dX6_plan_78 : decode cX6_plan 78 = .ok (.iload_n 1, 1) := by decide +kernel
theorem dX6_plan_79 : decode cX6_plan 79 = .ok (.iload_n 2, 1) := by decide +kernel
theorem dX6_plan_80 : decode cX6_plan 80 = .ok (.invokevirtual 203, 3) := by decide +kernel
theorem dX6_plan_83 : decode cX6_plan 83 = .ok (.ireturn, 1) := by decide +kernel
theorem dX6_waste_0 : decode cX6_waste 0 = .ok (.aload_n 0, 1) := by decide +kernel
theorem dX6_waste_1 : decode cX6_waste 1 = .ok (.getfield 19, 3) := by decide +kernel
theorem dX6_waste_4 : decode cX6_waste 4 = .ok (.iload_n 1, 1) := by decide +kernel
theorem dX6_waste_5 : decode cX6_waste 5 = .ok (.invokevirtual 183, 3) := by decide +kernel
theorem dX6_waste_8 : decode cX6_waste 8 = .ok (.ifCond .eq 14, 3) := by decide +kernel
theorem dX6_waste_11 : decode cX6_waste 11 = .ok (.aload_n 0, 1) := by decide +kernel
theorem dX6_waste_12 : decode cX6_waste 12 = .ok (.getfield 19, 3) := by decide +kernel
theorem dX6_waste_15 : decode cX6_waste 15 = .ok (.iload_n 2, 1) := by decide +kernel
theorem dX6_waste_16 : decode cX6_waste 16 = .ok (.invokevirtual 206, 3) := by decide +kernel
theorem dX6_waste_19 : decode cX6_waste 19 = .ok (.ifCond .ne 5, 3) := by decide +kernel
theorem dX6_waste_22 : decode cX6_waste 22 = .ok (.iconst (-1), 1) := by decide +kernel
theorem dX6_waste_23 : decode cX6_waste 23 = .ok (.ireturn, 1) := by decide +kernel
theorem dX6_waste_24 : decode cX6_waste 24 = .ok (.iconst 0, 1) := by decide +kernel
theorem dX6_waste_25 : decode cX6_waste 25 = .ok (.istore_n 3, 1) := by decide +kernel
theorem dX6_waste_26 : decode cX6_waste 26 = .ok (.iconst 0, 1) := by decide +kernel
theorem dX6_waste_27 : decode cX6_waste 27 = .ok (.istore 4, 2) := by decide +kernel
theorem dX6_waste_29 : decode cX6_waste 29 = .ok (.iload 4, 2) := by decide +kernel
theorem dX6_waste_31 : decode cX6_waste 31 = .ok (.aload_n 0, 1) := by decide +kernel
theorem dX6_waste_32 : decode cX6_waste 32 = .ok (.getfield 19, 3) := by decide +kernel
theorem dX6_waste_35 : decode cX6_waste 35 = .ok (.getfield 90, 3) := by decide +kernel
theorem dX6_waste_38 : decode cX6_waste 38 = .ok (.if_icmp .ge 60, 3) := by decide +kernel
theorem dX6_waste_41 : decode cX6_waste 41 = .ok (.aload_n 0, 1) := by decide +kernel
theorem dX6_waste_42 : decode cX6_waste 42 = .ok (.getfield 19, 3) := by decide +kernel
theorem dX6_waste_45 : decode cX6_waste 45 = .ok (.getfield 126, 3) := by decide +kernel
theorem dX6_waste_48 : decode cX6_waste 48 = .ok (.iload 4, 2) := by decide +kernel
theorem dX6_waste_50 : decode cX6_waste 50 = .ok (.iaload, 1) := by decide +kernel
theorem dX6_waste_51 : decode cX6_waste 51 = .ok (.iload_n 1, 1) := by decide +kernel
theorem dX6_waste_52 : decode cX6_waste 52 = .ok (.if_icmp .ne 40, 3) := by decide +kernel
theorem dX6_waste_55 : decode cX6_waste 55 = .ok (.aload_n 0, 1) := by decide +kernel
theorem dX6_waste_56 : decode cX6_waste 56 = .ok (.getfield 19, 3) := by decide +kernel
theorem dX6_waste_59 : decode cX6_waste 59 = .ok (.getfield 130, 3) := by decide +kernel
theorem dX6_waste_62 : decode cX6_waste 62 = .ok (.iload 4, 2) := by decide +kernel
theorem dX6_waste_64 : decode cX6_waste 64 = .ok (.iaload, 1) := by decide +kernel
theorem dX6_waste_65 : decode cX6_waste 65 = .ok (.iload_n 2, 1) := by decide +kernel
theorem dX6_waste_66 : decode cX6_waste 66 = .ok (.if_icmp .gt 26, 3) := by decide +kernel
theorem dX6_waste_69 : decode cX6_waste 69 = .ok (.iload_n 3, 1) := by decide +kernel
theorem dX6_waste_70 : decode cX6_waste 70 = .ok (.aload_n 0, 1) := by decide +kernel
theorem dX6_waste_71 : decode cX6_waste 71 = .ok (.getfield 19, 3) := by decide +kernel
theorem dX6_waste_74 : decode cX6_waste 74 = .ok (.getfield 133, 3) := by decide +kernel
theorem dX6_waste_77 : decode cX6_waste 77 = .ok (.iload 4, 2) := by decide +kernel
theorem dX6_waste_79 : decode cX6_waste 79 = .ok (.iaload, 1) := by decide +kernel
theorem dX6_waste_80 : decode cX6_waste 80 = .ok (.aload_n 0, 1) := by decide +kernel
theorem dX6_waste_81 : decode cX6_waste 81 = .ok (.getfield 19, 3) := by decide +kernel
theorem dX6_waste_84 : decode cX6_waste 84 = .ok (.iload 4, 2) := by decide +kernel
theorem dX6_waste_86 : decode cX6_waste 86 = .ok (.invokevirtual 139, 3) := by decide +kernel
theorem dX6_waste_89 : decode cX6_waste 89 = .ok (.isub, 1) := by decide +kernel
theorem dX6_waste_90 : decode cX6_waste 90 = .ok (.iadd, 1) := by decide +kernel
theorem dX6_waste_91 : decode cX6_waste 91 = .ok (.istore_n 3, 1) := by decide +kernel
theorem dX6_waste_92 : decode cX6_waste 92 = .ok (.iinc 4 1, 3) := by decide +kernel
theorem dX6_waste_95 : decode cX6_waste 95 = .ok (.goto (-66), 3) := by decide +kernel
theorem dX6_waste_98 : decode cX6_waste 98 = .ok (.iload_n 3, 1) := by decide +kernel
theorem dX6_waste_99 : decode cX6_waste 99 = .ok (.ireturn, 1) := by decide +kernel
theorem dX6_least_0 : decode cX6_least 0 = .ok (.aload_n 0, 1) := by decide +kernel
theorem dX6_least_1 : decode cX6_least 1 = .ok (.getfield 19, 3) := by decide +kernel
theorem dX6_least_4 : decode cX6_least 4 = .ok (.iload_n 1, 1) := by decide +kernel
theorem dX6_least_5 : decode cX6_least 5 = .ok (.invokevirtual 183, 3) := by decide +kernel
theorem dX6_least_8 : decode cX6_least 8 = .ok (.ifCond .eq 14, 3) := by decide +kernel
theorem dX6_least_11 : decode cX6_least 11 = .ok (.aload_n 0, 1) := by decide +kernel
theorem dX6_least_12 : decode cX6_least 12 = .ok (.getfield 19, 3) := by decide +kernel
theorem dX6_least_15 : decode cX6_least 15 = .ok (.iload_n 2, 1) := by decide +kernel
theorem dX6_least_16 : decode cX6_least 16 = .ok (.invokevirtual 206, 3) := by decide +kernel
theorem dX6_least_19 : decode cX6_least 19 = .ok (.ifCond .ne 5, 3) := by decide +kernel
theorem dX6_least_22 : decode cX6_least 22 = .ok (.iconst (-1), 1) := by decide +kernel
theorem dX6_least_23 : decode cX6_least 23 = .ok (.ireturn, 1) := by decide +kernel
theorem dX6_least_24 : decode cX6_least 24 = .ok (.aload_n 0, 1) := by decide +kernel
theorem dX6_least_25 : decode cX6_least 25 = .ok (.getfield 40, 3) := by decide +kernel
theorem dX6_least_28 : decode cX6_least 28 = .ok (.aload_n 0, 1) := by decide +kernel
theorem dX6_least_29 : decode cX6_least 29 = .ok (.getfield 19, 3) := by decide +kernel
theorem dX6_least_32 : decode cX6_least 32 = .ok (.iload_n 1, 1) := by decide +kernel
theorem dX6_least_33 : decode cX6_least 33 = .ok (.invokevirtual 196, 3) := by decide +kernel
theorem dX6_least_36 : decode cX6_least 36 = .ok (.aload_n 0, 1) := by decide +kernel
theorem dX6_least_37 : decode cX6_least 37 = .ok (.getfield 40, 3) := by decide +kernel
theorem dX6_least_40 : decode cX6_least 40 = .ok (.iload_n 2, 1) := by decide +kernel
theorem dX6_least_41 : decode cX6_least 41 = .ok (.invokevirtual 209, 3) := by decide +kernel
theorem dX6_least_44 : decode cX6_least 44 = .ok (.ireturn, 1) := by decide +kernel
theorem dX6_would_0 : decode cX6_would 0 = .ok (.aload_n 0, 1) := by decide +kernel
theorem dX6_would_1 : decode cX6_would 1 = .ok (.iload_n 1, 1) := by decide +kernel
theorem dX6_would_2 : decode cX6_would 2 = .ok (.iload_n 2, 1) := by decide +kernel
theorem dX6_would_3 : decode cX6_would 3 = .ok (.iload_n 3, 1) := by decide +kernel
theorem dX6_would_4 : decode cX6_would 4 = .ok (.iload 4, 2) := by decide +kernel
theorem dX6_would_6 : decode cX6_would 6 = .ok (.invokevirtual 212, 3) := by decide +kernel
theorem dX6_would_9 : decode cX6_would 9 = .ok (.ifCond .ne 5, 3) := by decide +kernel
theorem dX6_would_12 : decode cX6_would 12 = .ok (.iconst (-1), 1) := by decide +kernel
theorem dX6_would_13 : decode cX6_would 13 = .ok (.ireturn, 1) := by decide +kernel
theorem dX6_would_14 : decode cX6_would 14 = .ok (.aload_n 0, 1) := by decide +kernel
theorem dX6_would_15 : decode cX6_would 15 = .ok (.getfield 19, 3) := by decide +kernel
theorem dX6_would_18 : decode cX6_would 18 = .ok (.iload_n 1, 1) := by decide +kernel
theorem dX6_would_19 : decode cX6_would 19 = .ok (.iload_n 2, 1) := by decide +kernel
theorem dX6_would_20 : decode cX6_would 20 = .ok (.invokevirtual 216, 3) := by decide +kernel
theorem dX6_would_23 : decode cX6_would 23 = .ok (.iconst (-1), 1) := by decide +kernel
theorem dX6_would_24 : decode cX6_would 24 = .ok (.if_icmp .eq 6, 3) := by decide +kernel
theorem dX6_would_27 : decode cX6_would 27 = .ok (.bipush (-2), 2) := by decide +kernel
theorem dX6_would_29 : decode cX6_would 29 = .ok (.ireturn, 1) := by decide +kernel
theorem dX6_would_30 : decode cX6_would 30 = .ok (.aload_n 0, 1) := by decide +kernel
theorem dX6_would_31 : decode cX6_would 31 = .ok (.getfield 23, 3) := by decide +kernel
theorem dX6_would_34 : decode cX6_would 34 = .ok (.aload_n 0, 1) := by decide +kernel
theorem dX6_would_35 : decode cX6_would 35 = .ok (.getfield 19, 3) := by decide +kernel
theorem dX6_would_38 : decode cX6_would 38 = .ok (.invokevirtual 72, 3) := by decide +kernel
theorem dX6_would_41 : decode cX6_would 41 = .ok (.aload_n 0, 1) := by decide +kernel
theorem dX6_would_42 : decode cX6_would 42 = .ok (.getfield 23, 3) := by decide +kernel
theorem dX6_would_45 : decode cX6_would 45 = .ok (.iload_n 1, 1) := by decide +kernel
theorem dX6_would_46 : decode cX6_would 46 = .ok (.iload_n 2, 1) := by decide +kernel
theorem dX6_would_47 : decode cX6_would 47 = .ok (.iload_n 3, 1) := by decide +kernel
theorem dX6_would_48 : decode cX6_would 48 = .ok (.iload 4, 2) := by decide +kernel
theorem dX6_would_50 : decode cX6_would 50 = .ok (.invokevirtual 219, 3) := by decide +kernel
theorem dX6_would_53 : decode cX6_would 53 = .ok (.istore 5, 2) := by decide +kernel
theorem dX6_would_55 : decode cX6_would 55 = .ok (.aload_n 0, 1) := by decide +kernel
theorem dX6_would_56 : decode cX6_would 56 = .ok (.getfield 40, 3) := by decide +kernel
theorem dX6_would_59 : decode cX6_would 59 = .ok (.aload_n 0, 1) := by decide +kernel
theorem dX6_would_60 : decode cX6_would 60 = .ok (.getfield 23, 3) := by decide +kernel
theorem dX6_would_63 : decode cX6_would 63 = .ok (.iload_n 2, 1) := by decide +kernel
theorem dX6_would_64 : decode cX6_would 64 = .ok (.invokevirtual 196, 3) := by decide +kernel
theorem dX6_would_67 : decode cX6_would 67 = .ok (.aload_n 0, 1) := by decide +kernel
theorem dX6_would_68 : decode cX6_would 68 = .ok (.getfield 40, 3) := by decide +kernel
theorem dX6_would_71 : decode cX6_would 71 = .ok (.iload 5, 2) := by decide +kernel
theorem dX6_would_73 : decode cX6_would 73 = .ok (.invokevirtual 200, 3) := by decide +kernel
theorem dX6_would_76 : decode cX6_would 76 = .ok (.ireturn, 1) := by decide +kernel
theorem dX6_slack_0 : decode cX6_slack 0 = .ok (.aload_n 0, 1) := by decide +kernel
theorem dX6_slack_1 : decode cX6_slack 1 = .ok (.getfield 19, 3) := by decide +kernel
theorem dX6_slack_4 : decode cX6_slack 4 = .ok (.iload_n 1, 1) := by decide +kernel
theorem dX6_slack_5 : decode cX6_slack 5 = .ok (.invokevirtual 189, 3) := by decide +kernel
theorem dX6_slack_8 : decode cX6_slack 8 = .ok (.ifCond .ne 5, 3) := by decide +kernel
theorem dX6_slack_11 : decode cX6_slack 11 = .ok (.iconst (-1), 1) := by decide +kernel
theorem dX6_slack_12 : decode cX6_slack 12 = .ok (.ireturn, 1) := by decide +kernel
theorem dX6_slack_13 : decode cX6_slack 13 = .ok (.aload_n 0, 1) := by decide +kernel
theorem dX6_slack_14 : decode cX6_slack 14 = .ok (.getfield 23, 3) := by decide +kernel
theorem dX6_slack_17 : decode cX6_slack 17 = .ok (.aload_n 0, 1) := by decide +kernel
theorem dX6_slack_18 : decode cX6_slack 18 = .ok (.getfield 19, 3) := by decide +kernel
theorem dX6_slack_21 : decode cX6_slack 21 = .ok (.invokevirtual 72, 3) := by decide +kernel
theorem dX6_slack_24 : decode cX6_slack 24 = .ok (.aload_n 0, 1) := by decide +kernel
theorem dX6_slack_25 : decode cX6_slack 25 = .ok (.getfield 19, 3) := by decide +kernel
theorem dX6_slack_28 : decode cX6_slack 28 = .ok (.getfield 180, 3) := by decide +kernel
theorem dX6_slack_31 : decode cX6_slack 31 = .ok (.aload_n 0, 1) := by decide +kernel
theorem dX6_slack_32 : decode cX6_slack 32 = .ok (.getfield 19, 3) := by decide +kernel
theorem dX6_slack_35 : decode cX6_slack 35 = .ok (.getfield 150, 3) := by decide +kernel
theorem dX6_slack_38 : decode cX6_slack 38 = .ok (.iload_n 1, 1) := by decide +kernel
theorem dX6_slack_39 : decode cX6_slack 39 = .ok (.iaload, 1) := by decide +kernel
theorem dX6_slack_40 : decode cX6_slack 40 = .ok (.iaload, 1) := by decide +kernel
theorem dX6_slack_41 : decode cX6_slack 41 = .ok (.istore_n 2, 1) := by decide +kernel
theorem dX6_slack_42 : decode cX6_slack 42 = .ok (.aload_n 0, 1) := by decide +kernel
theorem dX6_slack_43 : decode cX6_slack 43 = .ok (.iload_n 2, 1) := by decide +kernel
theorem dX6_slack_44 : decode cX6_slack 44 = .ok (.iload_n 1, 1) := by decide +kernel
theorem dX6_slack_45 : decode cX6_slack 45 = .ok (.invokevirtual 223, 3) := by decide +kernel
theorem dX6_slack_48 : decode cX6_slack 48 = .ok (.ifCond .ne 6, 3) := by decide +kernel
theorem dX6_slack_51 : decode cX6_slack 51 = .ok (.bipush (-2), 2) := by decide +kernel
theorem dX6_slack_53 : decode cX6_slack 53 = .ok (.ireturn, 1) := by decide +kernel
theorem dX6_slack_54 : decode cX6_slack 54 = .ok (.iconst 0, 1) := by decide +kernel
theorem dX6_slack_55 : decode cX6_slack 55 = .ok (.istore_n 3, 1) := by decide +kernel
theorem dX6_slack_56 : decode cX6_slack 56 = .ok (.iconst 0, 1) := by decide +kernel
theorem dX6_slack_57 : decode cX6_slack 57 = .ok (.istore 4, 2) := by decide +kernel
theorem dX6_slack_59 : decode cX6_slack 59 = .ok (.iload 4, 2) := by decide +kernel
theorem dX6_slack_61 : decode cX6_slack 61 = .ok (.bipush 99, 2) := by decide +kernel
theorem dX6_slack_63 : decode cX6_slack 63 = .ok (.if_icmp .gt 42, 3) := by decide +kernel
theorem dX6_slack_66 : decode cX6_slack 66 = .ok (.iload_n 3, 1) := by decide +kernel
theorem dX6_slack_67 : decode cX6_slack 67 = .ok (.iload_n 2, 1) := by decide +kernel
theorem dX6_slack_68 : decode cX6_slack 68 = .ok (.if_icmp .ge 37, 3) := by decide +kernel
theorem dX6_slack_71 : decode cX6_slack 71 = .ok (.iload_n 3, 1) := by decide +kernel
theorem dX6_slack_72 : decode cX6_slack 72 = .ok (.iload_n 2, 1) := by decide +kernel
theorem dX6_slack_73 : decode cX6_slack 73 = .ok (.iadd, 1) := by decide +kernel
theorem dX6_slack_74 : decode cX6_slack 74 = .ok (.iconst 2, 1) := by decide +kernel
theorem dX6_slack_75 : decode cX6_slack 75 = .ok (.idiv, 1) := by decide +kernel
theorem dX6_slack_76 : decode cX6_slack 76 = .ok (.istore 5, 2) := by decide +kernel
theorem dX6_slack_78 : decode cX6_slack 78 = .ok (.aload_n 0, 1) := by decide +kernel
theorem dX6_slack_79 : decode cX6_slack 79 = .ok (.iload 5, 2) := by decide +kernel
theorem dX6_slack_81 : decode cX6_slack 81 = .ok (.iload_n 1, 1) := by decide +kernel
theorem dX6_slack_82 : decode cX6_slack 82 = .ok (.invokevirtual 223, 3) := by decide +kernel
theorem dX6_slack_85 : decode cX6_slack 85 = .ok (.ifCond .eq 9, 3) := by decide +kernel
theorem dX6_slack_88 : decode cX6_slack 88 = .ok (.iload 5, 2) := by decide +kernel
theorem dX6_slack_90 : decode cX6_slack 90 = .ok (.istore_n 2, 1) := by decide +kernel
theorem dX6_slack_91 : decode cX6_slack 91 = .ok (.goto 8, 3) := by decide +kernel
theorem dX6_slack_94 : decode cX6_slack 94 = .ok (.iload 5, 2) := by decide +kernel
theorem dX6_slack_96 : decode cX6_slack 96 = .ok (.iconst 1, 1) := by decide +kernel
theorem dX6_slack_97 : decode cX6_slack 97 = .ok (.iadd, 1) := by decide +kernel
theorem dX6_slack_98 : decode cX6_slack 98 = .ok (.istore_n 3, 1) := by decide +kernel
theorem dX6_slack_99 : decode cX6_slack 99 = .ok (.iinc 4 1, 3) := by decide +kernel
theorem dX6_slack_102 : decode cX6_slack 102 = .ok (.goto (-43), 3) := by decide +kernel
theorem dX6_slack_105 : decode cX6_slack 105 = .ok (.iload_n 2, 1) := by decide +kernel
theorem dX6_slack_106 : decode cX6_slack 106 = .ok (.ireturn, 1) := by decide +kernel
theorem dX6_comes_0 : decode cX6_comes 0 = .ok (.aload_n 0, 1) := by decide +kernel
theorem dX6_comes_1 : decode cX6_comes 1 = .ok (.getfield 19, 3) := by decide +kernel
theorem dX6_comes_4 : decode cX6_comes 4 = .ok (.iload_n 1, 1) := by decide +kernel
theorem dX6_comes_5 : decode cX6_comes 5 = .ok (.invokevirtual 183, 3) := by decide +kernel
theorem dX6_comes_8 : decode cX6_comes 8 = .ok (.ifCond .eq 29, 3) := by decide +kernel
theorem dX6_comes_11 : decode cX6_comes 11 = .ok (.aload_n 0, 1) := by decide +kernel
theorem dX6_comes_12 : decode cX6_comes 12 = .ok (.getfield 19, 3) := by decide +kernel
theorem dX6_comes_15 : decode cX6_comes 15 = .ok (.iload_n 2, 1) := by decide +kernel
theorem dX6_comes_16 : decode cX6_comes 16 = .ok (.invokevirtual 206, 3) := by decide +kernel
theorem dX6_comes_19 : decode cX6_comes 19 = .ok (.ifCond .eq 18, 3) := by decide +kernel
theorem dX6_comes_22 : decode cX6_comes 22 = .ok (.iload_n 3, 1) := by decide +kernel
theorem dX6_comes_23 : decode cX6_comes 23 = .ok (.invokestatic 226, 3) := by decide +kernel
theorem dX6_comes_26 : decode cX6_comes 26 = .ok (.ifCond .eq 11, 3) := by decide +kernel
theorem dX6_comes_29 : decode cX6_comes 29 = .ok (.iload 4, 2) := by decide +kernel
theorem dX6_comes_31 : decode cX6_comes 31 = .ok (.invokestatic 229, 3) := by decide +kernel
theorem dX6_comes_34 : decode cX6_comes 34 = .ok (.ifCond .ne 5, 3) := by decide +kernel
theorem dX6_comes_37 : decode cX6_comes 37 = .ok (.iconst (-1), 1) := by decide +kernel
theorem dX6_comes_38 : decode cX6_comes 38 = .ok (.ireturn, 1) := by decide +kernel
theorem dX6_comes_39 : decode cX6_comes 39 = .ok (.aload_n 0, 1) := by decide +kernel
theorem dX6_comes_40 : decode cX6_comes 40 = .ok (.getfield 19, 3) := by decide +kernel
theorem dX6_comes_43 : decode cX6_comes 43 = .ok (.getfield 90, 3) := by decide +kernel
theorem dX6_comes_46 : decode cX6_comes 46 = .ok (.bipush 24, 2) := by decide +kernel
theorem dX6_comes_48 : decode cX6_comes 48 = .ok (.if_icmp .lt 6, 3) := by decide +kernel
theorem dX6_comes_51 : decode cX6_comes 51 = .ok (.bipush (-2), 2) := by decide +kernel
theorem dX6_comes_53 : decode cX6_comes 53 = .ok (.ireturn, 1) := by decide +kernel
theorem dX6_comes_54 : decode cX6_comes 54 = .ok (.aload_n 0, 1) := by decide +kernel
theorem dX6_comes_55 : decode cX6_comes 55 = .ok (.getfield 47, 3) := by decide +kernel
theorem dX6_comes_58 : decode cX6_comes 58 = .ok (.aload_n 0, 1) := by decide +kernel
theorem dX6_comes_59 : decode cX6_comes 59 = .ok (.getfield 19, 3) := by decide +kernel
theorem dX6_comes_62 : decode cX6_comes 62 = .ok (.invokevirtual 232, 3) := by decide +kernel
theorem dX6_comes_65 : decode cX6_comes 65 = .ok (.aload_n 0, 1) := by decide +kernel
theorem dX6_comes_66 : decode cX6_comes 66 = .ok (.getfield 19, 3) := by decide +kernel
theorem dX6_comes_69 : decode cX6_comes 69 = .ok (.iload_n 1, 1) := by decide +kernel
theorem dX6_comes_70 : decode cX6_comes 70 = .ok (.iload_n 2, 1) := by decide +kernel
theorem dX6_comes_71 : decode cX6_comes 71 = .ok (.iload_n 3, 1) := by decide +kernel
theorem dX6_comes_72 : decode cX6_comes 72 = .ok (.iload 4, 2) := by decide +kernel
theorem dX6_comes_74 : decode cX6_comes 74 = .ok (.invokevirtual 235, 3) := by decide +kernel
theorem dX6_comes_77 : decode cX6_comes 77 = .ok (.ireturn, 1) := by decide +kernel
theorem dX6_asks_0 : decode cX6_asks 0 = .ok (.aload_n 0, 1) := by decide +kernel
theorem dX6_asks_1 : decode cX6_asks 1 = .ok (.iload_n 1, 1) := by decide +kernel
theorem dX6_asks_2 : decode cX6_asks 2 = .ok (.iload_n 2, 1) := by decide +kernel
theorem dX6_asks_3 : decode cX6_asks 3 = .ok (.iload_n 3, 1) := by decide +kernel
theorem dX6_asks_4 : decode cX6_asks 4 = .ok (.iload 4, 2) := by decide +kernel
theorem dX6_asks_6 : decode cX6_asks 6 = .ok (.invokevirtual 212, 3) := by decide +kernel
theorem dX6_asks_9 : decode cX6_asks 9 = .ok (.ifCond .ne 5, 3) := by decide +kernel
theorem dX6_asks_12 : decode cX6_asks 12 = .ok (.iconst (-1), 1) := by decide +kernel
theorem dX6_asks_13 : decode cX6_asks 13 = .ok (.ireturn, 1) := by decide +kernel
theorem dX6_asks_14 : decode cX6_asks 14 = .ok (.aload_n 0, 1) := by decide +kernel
theorem dX6_asks_15 : decode cX6_asks 15 = .ok (.getfield 19, 3) := by decide +kernel
theorem dX6_asks_18 : decode cX6_asks 18 = .ok (.iload_n 1, 1) := by decide +kernel
theorem dX6_asks_19 : decode cX6_asks 19 = .ok (.iload_n 2, 1) := by decide +kernel
theorem dX6_asks_20 : decode cX6_asks 20 = .ok (.invokevirtual 216, 3) := by decide +kernel
theorem dX6_asks_23 : decode cX6_asks 23 = .ok (.iconst (-1), 1) := by decide +kernel
theorem dX6_asks_24 : decode cX6_asks 24 = .ok (.if_icmp .eq 6, 3) := by decide +kernel
theorem dX6_asks_27 : decode cX6_asks 27 = .ok (.bipush (-2), 2) := by decide +kernel
theorem dX6_asks_29 : decode cX6_asks 29 = .ok (.ireturn, 1) := by decide +kernel
theorem dX6_asks_30 : decode cX6_asks 30 = .ok (.aload_n 0, 1) := by decide +kernel
theorem dX6_asks_31 : decode cX6_asks 31 = .ok (.getfield 19, 3) := by decide +kernel
theorem dX6_asks_34 : decode cX6_asks 34 = .ok (.getfield 93, 3) := by decide +kernel
theorem dX6_asks_37 : decode cX6_asks 37 = .ok (.bipush 40, 2) := by decide +kernel
theorem dX6_asks_39 : decode cX6_asks 39 = .ok (.if_icmp .lt 6, 3) := by decide +kernel
theorem dX6_asks_42 : decode cX6_asks 42 = .ok (.bipush (-3), 2) := by decide +kernel
theorem dX6_asks_44 : decode cX6_asks 44 = .ok (.ireturn, 1) := by decide +kernel
theorem dX6_asks_45 : decode cX6_asks 45 = .ok (.aload_n 0, 1) := by decide +kernel
theorem dX6_asks_46 : decode cX6_asks 46 = .ok (.getfield 47, 3) := by decide +kernel
theorem dX6_asks_49 : decode cX6_asks 49 = .ok (.aload_n 0, 1) := by decide +kernel
theorem dX6_asks_50 : decode cX6_asks 50 = .ok (.getfield 19, 3) := by decide +kernel
theorem dX6_asks_53 : decode cX6_asks 53 = .ok (.invokevirtual 232, 3) := by decide +kernel
theorem dX6_asks_56 : decode cX6_asks 56 = .ok (.aload_n 0, 1) := by decide +kernel
theorem dX6_asks_57 : decode cX6_asks 57 = .ok (.getfield 19, 3) := by decide +kernel
theorem dX6_asks_60 : decode cX6_asks 60 = .ok (.iload_n 1, 1) := by decide +kernel
theorem dX6_asks_61 : decode cX6_asks 61 = .ok (.iload_n 2, 1) := by decide +kernel
theorem dX6_asks_62 : decode cX6_asks 62 = .ok (.iload_n 3, 1) := by decide +kernel
theorem dX6_asks_63 : decode cX6_asks 63 = .ok (.iload 4, 2) := by decide +kernel
theorem dX6_asks_65 : decode cX6_asks 65 = .ok (.invokevirtual 219, 3) := by decide +kernel
theorem dX6_asks_68 : decode cX6_asks 68 = .ok (.ireturn, 1) := by decide +kernel
theorem dX6_reserve_0 : decode cX6_reserve 0 = .ok (.aload_n 0, 1) := by decide +kernel
theorem dX6_reserve_1 : decode cX6_reserve 1 = .ok (.getfield 19, 3) := by decide +kernel
theorem dX6_reserve_4 : decode cX6_reserve 4 = .ok (.iload_n 1, 1) := by decide +kernel
theorem dX6_reserve_5 : decode cX6_reserve 5 = .ok (.invokevirtual 183, 3) := by decide +kernel
theorem dX6_reserve_8 : decode cX6_reserve 8 = .ok (.ifCond .ne 5, 3) := by decide +kernel
theorem dX6_reserve_11 : decode cX6_reserve 11 = .ok (.iconst (-1), 1) := by decide +kernel
theorem dX6_reserve_12 : decode cX6_reserve 12 = .ok (.ireturn, 1) := by decide +kernel
theorem dX6_reserve_13 : decode cX6_reserve 13 = .ok (.aload_n 0, 1) := by decide +kernel
theorem dX6_reserve_14 : decode cX6_reserve 14 = .ok (.getfield 47, 3) := by decide +kernel
theorem dX6_reserve_17 : decode cX6_reserve 17 = .ok (.aload_n 0, 1) := by decide +kernel
theorem dX6_reserve_18 : decode cX6_reserve 18 = .ok (.getfield 19, 3) := by decide +kernel
theorem dX6_reserve_21 : decode cX6_reserve 21 = .ok (.invokevirtual 232, 3) := by decide +kernel
theorem dX6_reserve_24 : decode cX6_reserve 24 = .ok (.aload_n 0, 1) := by decide +kernel
theorem dX6_reserve_25 : decode cX6_reserve 25 = .ok (.getfield 40, 3) := by decide +kernel
theorem dX6_reserve_28 : decode cX6_reserve 28 = .ok (.aload_n 0, 1) := by decide +kernel
theorem dX6_reserve_29 : decode cX6_reserve 29 = .ok (.getfield 19, 3) := by decide +kernel
theorem dX6_reserve_32 : decode cX6_reserve 32 = .ok (.iload_n 1, 1) := by decide +kernel
theorem dX6_reserve_33 : decode cX6_reserve 33 = .ok (.invokevirtual 196, 3) := by decide +kernel
theorem dX6_reserve_36 : decode cX6_reserve 36 = .ok (.aload_n 0, 1) := by decide +kernel
theorem dX6_reserve_37 : decode cX6_reserve 37 = .ok (.getfield 40, 3) := by decide +kernel
theorem dX6_reserve_40 : decode cX6_reserve 40 = .ok (.invokevirtual 238, 3) := by decide +kernel
theorem dX6_reserve_43 : decode cX6_reserve 43 = .ok (.ireturn, 1) := by decide +kernel
theorem dX6_cancel_0 : decode cX6_cancel 0 = .ok (.aload_n 0, 1) := by decide +kernel
theorem dX6_cancel_1 : decode cX6_cancel 1 = .ok (.getfield 19, 3) := by decide +kernel
theorem dX6_cancel_4 : decode cX6_cancel 4 = .ok (.iload_n 1, 1) := by decide +kernel
theorem dX6_cancel_5 : decode cX6_cancel 5 = .ok (.invokevirtual 189, 3) := by decide +kernel
theorem dX6_cancel_8 : decode cX6_cancel 8 = .ok (.ifCond .ne 5, 3) := by decide +kernel
theorem dX6_cancel_11 : decode cX6_cancel 11 = .ok (.iconst (-1), 1) := by decide +kernel
theorem dX6_cancel_12 : decode cX6_cancel 12 = .ok (.ireturn, 1) := by decide +kernel
theorem dX6_cancel_13 : decode cX6_cancel 13 = .ok (.aload_n 0, 1) := by decide +kernel
theorem dX6_cancel_14 : decode cX6_cancel 14 = .ok (.getfield 47, 3) := by decide +kernel
theorem dX6_cancel_17 : decode cX6_cancel 17 = .ok (.aload_n 0, 1) := by decide +kernel
theorem dX6_cancel_18 : decode cX6_cancel 18 = .ok (.getfield 19, 3) := by decide +kernel
theorem dX6_cancel_21 : decode cX6_cancel 21 = .ok (.invokevirtual 232, 3) := by decide +kernel
theorem dX6_cancel_24 : decode cX6_cancel 24 = .ok (.aload_n 0, 1) := by decide +kernel
theorem dX6_cancel_25 : decode cX6_cancel 25 = .ok (.getfield 19, 3) := by decide +kernel
theorem dX6_cancel_28 : decode cX6_cancel 28 = .ok (.iload_n 1, 1) := by decide +kernel
theorem dX6_cancel_29 : decode cX6_cancel 29 = .ok (.iconst 2, 1) := by decide +kernel
theorem dX6_cancel_30 : decode cX6_cancel 30 = .ok (.invokevirtual 241, 3) := by decide +kernel
theorem dX6_cancel_33 : decode cX6_cancel 33 = .ok (.ireturn, 1) := by decide +kernel
theorem dX6_hold_0 : decode cX6_hold 0 = .ok (.aload_n 0, 1) := by decide +kernel
theorem dX6_hold_1 : decode cX6_hold 1 = .ok (.getfield 19, 3) := by decide +kernel
theorem dX6_hold_4 : decode cX6_hold 4 = .ok (.iload_n 1, 1) := by decide +kernel
theorem dX6_hold_5 : decode cX6_hold 5 = .ok (.invokevirtual 115, 3) := by decide +kernel
theorem dX6_hold_8 : decode cX6_hold 8 = .ok (.ifCond .eq 10, 3) := by decide +kernel
theorem dX6_hold_11 : decode cX6_hold 11 = .ok (.iload_n 2, 1) := by decide +kernel
theorem dX6_hold_12 : decode cX6_hold 12 = .ok (.invokestatic 229, 3) := by decide +kernel
theorem dX6_hold_15 : decode cX6_hold 15 = .ok (.ifCond .ne 5, 3) := by decide +kernel
theorem dX6_hold_18 : decode cX6_hold 18 = .ok (.iconst (-1), 1) := by decide +kernel
theorem dX6_hold_19 : decode cX6_hold 19 = .ok (.ireturn, 1) := by decide +kernel
theorem dX6_hold_20 : decode cX6_hold 20 = .ok (.aload_n 0, 1) := by decide +kernel
theorem dX6_hold_21 : decode cX6_hold 21 = .ok (.getfield 47, 3) := by decide +kernel
theorem dX6_hold_24 : decode cX6_hold 24 = .ok (.aload_n 0, 1) := by decide +kernel
theorem dX6_hold_25 : decode cX6_hold 25 = .ok (.getfield 19, 3) := by decide +kernel
theorem dX6_hold_28 : decode cX6_hold 28 = .ok (.invokevirtual 232, 3) := by decide +kernel
theorem dX6_hold_31 : decode cX6_hold 31 = .ok (.aload_n 0, 1) := by decide +kernel
theorem dX6_hold_32 : decode cX6_hold 32 = .ok (.getfield 19, 3) := by decide +kernel
theorem dX6_hold_35 : decode cX6_hold 35 = .ok (.getfield 136, 3) := by decide +kernel
theorem dX6_hold_38 : decode cX6_hold 38 = .ok (.iload_n 1, 1) := by decide +kernel
theorem dX6_hold_39 : decode cX6_hold 39 = .ok (.iload_n 2, 1) := by decide +kernel
theorem dX6_hold_40 : decode cX6_hold 40 = .ok (.iastore, 1) := by decide +kernel
theorem dX6_hold_41 : decode cX6_hold 41 = .ok (.aload_n 0, 1) := by decide +kernel
theorem dX6_hold_42 : decode cX6_hold 42 = .ok (.getfield 19, 3) := by decide +kernel
theorem dX6_hold_45 : decode cX6_hold 45 = .ok (.iload_n 1, 1) := by decide +kernel
theorem dX6_hold_46 : decode cX6_hold 46 = .ok (.invokevirtual 244, 3) := by decide +kernel
theorem dX6_hold_49 : decode cX6_hold 49 = .ok (.ireturn, 1) := by decide +kernel
theorem dX6_deliver_0 : decode cX6_deliver 0 = .ok (.aload_n 0, 1) := by decide +kernel
theorem dX6_deliver_1 : decode cX6_deliver 1 = .ok (.getfield 19, 3) := by decide +kernel
theorem dX6_deliver_4 : decode cX6_deliver 4 = .ok (.iload_n 1, 1) := by decide +kernel
theorem dX6_deliver_5 : decode cX6_deliver 5 = .ok (.invokevirtual 189, 3) := by decide +kernel
theorem dX6_deliver_8 : decode cX6_deliver 8 = .ok (.ifCond .eq 33, 3) := by decide +kernel
theorem dX6_deliver_11 : decode cX6_deliver 11 = .ok (.aload_n 0, 1) := by decide +kernel
theorem dX6_deliver_12 : decode cX6_deliver 12 = .ok (.getfield 19, 3) := by decide +kernel
theorem dX6_deliver_15 : decode cX6_deliver 15 = .ok (.getfield 159, 3) := by decide +kernel
theorem dX6_deliver_18 : decode cX6_deliver 18 = .ok (.iload_n 1, 1) := by decide +kernel
theorem dX6_deliver_19 : decode cX6_deliver 19 = .ok (.iaload, 1) := by decide +kernel
theorem dX6_deliver_20 : decode cX6_deliver 20 = .ok (.aload_n 0, 1) := by decide +kernel
theorem dX6_deliver_21 : decode cX6_deliver 21 = .ok (.getfield 19, 3) := by decide +kernel
theorem dX6_deliver_24 : decode cX6_deliver 24 = .ok (.getfield 84, 3) := by decide +kernel
theorem dX6_deliver_27 : decode cX6_deliver 27 = .ok (.if_icmp .ne 14, 3) := by decide +kernel
theorem dX6_deliver_30 : decode cX6_deliver 30 = .ok (.aload_n 0, 1) := by decide +kernel
theorem dX6_deliver_31 : decode cX6_deliver 31 = .ok (.getfield 19, 3) := by decide +kernel
theorem dX6_deliver_34 : decode cX6_deliver 34 = .ok (.iload_n 1, 1) := by decide +kernel
theorem dX6_deliver_35 : decode cX6_deliver 35 = .ok (.invokevirtual 165, 3) := by decide +kernel
theorem dX6_deliver_38 : decode cX6_deliver 38 = .ok (.ifCond .ne 5, 3) := by decide +kernel
theorem dX6_deliver_41 : decode cX6_deliver 41 = .ok (.iconst (-1), 1) := by decide +kernel
theorem dX6_deliver_42 : decode cX6_deliver 42 = .ok (.ireturn, 1) := by decide +kernel
theorem dX6_deliver_43 : decode cX6_deliver 43 = .ok (.aload_n 0, 1) := by decide +kernel
theorem dX6_deliver_44 : decode cX6_deliver 44 = .ok (.getfield 47, 3) := by decide +kernel
theorem dX6_deliver_47 : decode cX6_deliver 47 = .ok (.aload_n 0, 1) := by decide +kernel
theorem dX6_deliver_48 : decode cX6_deliver 48 = .ok (.getfield 19, 3) := by decide +kernel
theorem dX6_deliver_51 : decode cX6_deliver 51 = .ok (.invokevirtual 232, 3) := by decide +kernel
theorem dX6_deliver_54 : decode cX6_deliver 54 = .ok (.aload_n 0, 1) := by decide +kernel
theorem dX6_deliver_55 : decode cX6_deliver 55 = .ok (.getfield 19, 3) := by decide +kernel
theorem dX6_deliver_58 : decode cX6_deliver 58 = .ok (.iload_n 1, 1) := by decide +kernel
theorem dX6_deliver_59 : decode cX6_deliver 59 = .ok (.invokevirtual 247, 3) := by decide +kernel
theorem dX6_deliver_62 : decode cX6_deliver 62 = .ok (.ireturn, 1) := by decide +kernel
theorem dX6_pass_0 : decode cX6_pass 0 = .ok (.iload_n 1, 1) := by decide +kernel
theorem dX6_pass_1 : decode cX6_pass 1 = .ok (.iconst 1, 1) := by decide +kernel
theorem dX6_pass_2 : decode cX6_pass 2 = .ok (.if_icmp .lt 24, 3) := by decide +kernel
theorem dX6_pass_5 : decode cX6_pass 5 = .ok (.iload_n 1, 1) := by decide +kernel
theorem dX6_pass_6 : decode cX6_pass 6 = .ok (.bipush 99, 2) := by decide +kernel
theorem dX6_pass_8 : decode cX6_pass 8 = .ok (.if_icmp .gt 18, 3) := by decide +kernel
theorem dX6_pass_11 : decode cX6_pass 11 = .ok (.aload_n 0, 1) := by decide +kernel
theorem dX6_pass_12 : decode cX6_pass 12 = .ok (.getfield 19, 3) := by decide +kernel
theorem dX6_pass_15 : decode cX6_pass 15 = .ok (.getfield 84, 3) := by decide +kernel
theorem dX6_pass_18 : decode cX6_pass 18 = .ok (.iload_n 1, 1) := by decide +kernel
theorem dX6_pass_19 : decode cX6_pass 19 = .ok (.iadd, 1) := by decide +kernel
theorem dX6_pass_20 : decode cX6_pass 20 = .ok (.sipush 900, 3) := by decide +kernel
theorem dX6_pass_23 : decode cX6_pass 23 = .ok (.if_icmp .le 5, 3) := by decide +kernel
theorem dX6_pass_26 : decode cX6_pass 26 = .ok (.iconst (-1), 1) := by decide +kernel
theorem dX6_pass_27 : decode cX6_pass 27 = .ok (.ireturn, 1) := by decide +kernel
theorem dX6_pass_28 : decode cX6_pass 28 = .ok (.aload_n 0, 1) := by decide +kernel
theorem dX6_pass_29 : decode cX6_pass 29 = .ok (.getfield 47, 3) := by decide +kernel
theorem dX6_pass_32 : decode cX6_pass 32 = .ok (.aload_n 0, 1) := by decide +kernel
theorem dX6_pass_33 : decode cX6_pass 33 = .ok (.getfield 19, 3) := by decide +kernel
theorem dX6_pass_36 : decode cX6_pass 36 = .ok (.invokevirtual 232, 3) := by decide +kernel
theorem dX6_pass_39 : decode cX6_pass 39 = .ok (.iconst 0, 1) := by decide +kernel
theorem dX6_pass_40 : decode cX6_pass 40 = .ok (.istore_n 2, 1) := by decide +kernel
theorem dX6_pass_41 : decode cX6_pass 41 = .ok (.iload_n 2, 1) := by decide +kernel
theorem dX6_pass_42 : decode cX6_pass 42 = .ok (.iload_n 1, 1) := by decide +kernel
theorem dX6_pass_43 : decode cX6_pass 43 = .ok (.if_icmp .ge 16, 3) := by decide +kernel
theorem dX6_pass_46 : decode cX6_pass 46 = .ok (.aload_n 0, 1) := by decide +kernel
theorem dX6_pass_47 : decode cX6_pass 47 = .ok (.getfield 19, 3) := by decide +kernel
theorem dX6_pass_50 : decode cX6_pass 50 = .ok (.invokevirtual 250, 3) := by decide +kernel
theorem dX6_pass_53 : decode cX6_pass 53 = .ok (.iinc 2 1, 3) := by decide +kernel
theorem dX6_pass_56 : decode cX6_pass 56 = .ok (.goto (-15), 3) := by decide +kernel
theorem dX6_pass_59 : decode cX6_pass 59 = .ok (.aload_n 0, 1) := by decide +kernel
theorem dX6_pass_60 : decode cX6_pass 60 = .ok (.getfield 19, 3) := by decide +kernel
theorem dX6_pass_63 : decode cX6_pass 63 = .ok (.getfield 84, 3) := by decide +kernel
theorem dX6_pass_66 : decode cX6_pass 66 = .ok (.ireturn, 1) := by decide +kernel
theorem dX6_undo_0 : decode cX6_undo 0 = .ok (.aload_n 0, 1) := by decide +kernel
theorem dX6_undo_1 : decode cX6_undo 1 = .ok (.getfield 47, 3) := by decide +kernel
theorem dX6_undo_4 : decode cX6_undo 4 = .ok (.getfield 112, 3) := by decide +kernel
theorem dX6_undo_7 : decode cX6_undo 7 = .ok (.ifCond .ne 5, 3) := by decide +kernel
theorem dX6_undo_10 : decode cX6_undo 10 = .ok (.iconst (-1), 1) := by decide +kernel
theorem dX6_undo_11 : decode cX6_undo 11 = .ok (.ireturn, 1) := by decide +kernel
theorem dX6_undo_12 : decode cX6_undo 12 = .ok (.aload_n 0, 1) := by decide +kernel
theorem dX6_undo_13 : decode cX6_undo 13 = .ok (.getfield 47, 3) := by decide +kernel
theorem dX6_undo_16 : decode cX6_undo 16 = .ok (.aload_n 0, 1) := by decide +kernel
theorem dX6_undo_17 : decode cX6_undo 17 = .ok (.getfield 19, 3) := by decide +kernel
theorem dX6_undo_20 : decode cX6_undo 20 = .ok (.invokevirtual 253, 3) := by decide +kernel
theorem dX6_undo_23 : decode cX6_undo 23 = .ok (.aload_n 0, 1) := by decide +kernel
theorem dX6_undo_24 : decode cX6_undo 24 = .ok (.getfield 47, 3) := by decide +kernel
theorem dX6_undo_27 : decode cX6_undo 27 = .ok (.getfield 112, 3) := by decide +kernel
theorem dX6_undo_30 : decode cX6_undo 30 = .ok (.ireturn, 1) := by decide +kernel
theorem dX6_isSum_0 : decode cX6_isSum 0 = .ok (.iload_n 0, 1) := by decide +kernel
theorem dX6_isSum_1 : decode cX6_isSum 1 = .ok (.iconst 1, 1) := by decide +kernel
theorem dX6_isSum_2 : decode cX6_isSum 2 = .ok (.if_icmp .lt 13, 3) := by decide +kernel
theorem dX6_isSum_5 : decode cX6_isSum 5 = .ok (.iload_n 0, 1) := by decide +kernel
theorem dX6_isSum_6 : decode cX6_isSum 6 = .ok (.bipush 99, 2) := by decide +kernel
theorem dX6_isSum_8 : decode cX6_isSum 8 = .ok (.if_icmp .gt 7, 3) := by decide +kernel
theorem dX6_isSum_11 : decode cX6_isSum 11 = .ok (.iconst 1, 1) := by decide +kernel
theorem dX6_isSum_12 : decode cX6_isSum 12 = .ok (.goto 4, 3) := by decide +kernel
theorem dX6_isSum_15 : decode cX6_isSum 15 = .ok (.iconst 0, 1) := by decide +kernel
theorem dX6_isSum_16 : decode cX6_isSum 16 = .ok (.ireturn, 1) := by decide +kernel
theorem dX6_isHold_0 : decode cX6_isHold 0 = .ok (.iload_n 0, 1) := by decide +kernel
theorem dX6_isHold_1 : decode cX6_isHold 1 = .ok (.ifCond .lt 14, 3) := by decide +kernel
theorem dX6_isHold_4 : decode cX6_isHold 4 = .ok (.iload_n 0, 1) := by decide +kernel
theorem dX6_isHold_5 : decode cX6_isHold 5 = .ok (.sipush 999, 3) := by decide +kernel
theorem dX6_isHold_8 : decode cX6_isHold 8 = .ok (.if_icmp .gt 7, 3) := by decide +kernel
theorem dX6_isHold_11 : decode cX6_isHold 11 = .ok (.iconst 1, 1) := by decide +kernel
theorem dX6_isHold_12 : decode cX6_isHold 12 = .ok (.goto 4, 3) := by decide +kernel
theorem dX6_isHold_15 : decode cX6_isHold 15 = .ok (.iconst 0, 1) := by decide +kernel
theorem dX6_isHold_16 : decode cX6_isHold 16 = .ok (.ireturn, 1) := by decide +kernel
theorem dX6_isOrder_0 : decode cX6_isOrder 0 = .ok (.aload_n 0, 1) := by decide +kernel
theorem dX6_isOrder_1 : decode cX6_isOrder 1 = .ok (.getfield 19, 3) := by decide +kernel
theorem dX6_isOrder_4 : decode cX6_isOrder 4 = .ok (.iload_n 1, 1) := by decide +kernel
theorem dX6_isOrder_5 : decode cX6_isOrder 5 = .ok (.invokevirtual 177, 3) := by decide +kernel
theorem dX6_isOrder_8 : decode cX6_isOrder 8 = .ok (.ifCond .eq 37, 3) := by decide +kernel
theorem dX6_isOrder_11 : decode cX6_isOrder 11 = .ok (.aload_n 0, 1) := by decide +kernel
theorem dX6_isOrder_12 : decode cX6_isOrder 12 = .ok (.getfield 19, 3) := by decide +kernel
theorem dX6_isOrder_15 : decode cX6_isOrder 15 = .ok (.iload_n 2, 1) := by decide +kernel
theorem dX6_isOrder_16 : decode cX6_isOrder 16 = .ok (.invokevirtual 183, 3) := by decide +kernel
theorem dX6_isOrder_19 : decode cX6_isOrder 19 = .ok (.ifCond .eq 26, 3) := by decide +kernel
theorem dX6_isOrder_22 : decode cX6_isOrder 22 = .ok (.iload_n 3, 1) := by decide +kernel
theorem dX6_isOrder_23 : decode cX6_isOrder 23 = .ok (.invokestatic 226, 3) := by decide +kernel
theorem dX6_isOrder_26 : decode cX6_isOrder 26 = .ok (.ifCond .eq 19, 3) := by decide +kernel
theorem dX6_isOrder_29 : decode cX6_isOrder 29 = .ok (.aload_n 0, 1) := by decide +kernel
theorem dX6_isOrder_30 : decode cX6_isOrder 30 = .ok (.getfield 19, 3) := by decide +kernel
theorem dX6_isOrder_33 : decode cX6_isOrder 33 = .ok (.iload 4, 2) := by decide +kernel
theorem dX6_isOrder_35 : decode cX6_isOrder 35 = .ok (.invokevirtual 206, 3) := by decide +kernel
theorem dX6_isOrder_38 : decode cX6_isOrder 38 = .ok (.ifCond .eq 7, 3) := by decide +kernel
theorem dX6_isOrder_41 : decode cX6_isOrder 41 = .ok (.iconst 1, 1) := by decide +kernel
theorem dX6_isOrder_42 : decode cX6_isOrder 42 = .ok (.goto 4, 3) := by decide +kernel
theorem dX6_isOrder_45 : decode cX6_isOrder 45 = .ok (.iconst 0, 1) := by decide +kernel
theorem dX6_isOrder_46 : decode cX6_isOrder 46 = .ok (.ireturn, 1) := by decide +kernel
theorem dX6_isFilledWith_0 : decode cX6_isFilledWith 0 = .ok (.aload_n 0, 1) := by decide +kernel
theorem dX6_isFilledWith_1 : decode cX6_isFilledWith 1 = .ok (.getfield 19, 3) := by decide +kernel
theorem dX6_isFilledWith_4 : decode cX6_isFilledWith 4 = .ok (.getfield 150, 3) := by decide +kernel
theorem dX6_isFilledWith_7 : decode cX6_isFilledWith 7 = .ok (.iload_n 2, 1) := by decide +kernel
theorem dX6_isFilledWith_8 : decode cX6_isFilledWith 8 = .ok (.iaload, 1) := by decide +kernel
theorem dX6_isFilledWith_9 : decode cX6_isFilledWith 9 = .ok (.istore_n 3, 1) := by decide +kernel
theorem dX6_isFilledWith_10 : decode cX6_isFilledWith 10 = .ok (.aload_n 0, 1) := by decide +kernel
theorem dX6_isFilledWith_11 : decode cX6_isFilledWith 11 = .ok (.getfield 23, 3) := by decide +kernel
theorem dX6_isFilledWith_14 : decode cX6_isFilledWith 14 = .ok (.getfield 180, 3) := by decide +kernel
theorem dX6_isFilledWith_17 : decode cX6_isFilledWith 17 = .ok (.iload_n 3, 1) := by decide +kernel
theorem dX6_isFilledWith_18 : decode cX6_isFilledWith 18 = .ok (.aload_n 0, 1) := by decide +kernel
theorem dX6_isFilledWith_19 : decode cX6_isFilledWith 19 = .ok (.getfield 19, 3) := by decide +kernel
theorem dX6_isFilledWith_22 : decode cX6_isFilledWith 22 = .ok (.getfield 180, 3) := by decide +kernel
theorem dX6_isFilledWith_25 : decode cX6_isFilledWith 25 = .ok (.iload_n 3, 1) := by decide +kernel
theorem dX6_isFilledWith_26 : decode cX6_isFilledWith 26 = .ok (.iaload, 1) := by decide +kernel
theorem dX6_isFilledWith_27 : decode cX6_isFilledWith 27 = .ok (.iload_n 1, 1) := by decide +kernel
theorem dX6_isFilledWith_28 : decode cX6_isFilledWith 28 = .ok (.isub, 1) := by decide +kernel
theorem dX6_isFilledWith_29 : decode cX6_isFilledWith 29 = .ok (.iastore, 1) := by decide +kernel
theorem dX6_isFilledWith_30 : decode cX6_isFilledWith 30 = .ok (.aload_n 0, 1) := by decide +kernel
theorem dX6_isFilledWith_31 : decode cX6_isFilledWith 31 = .ok (.getfield 40, 3) := by decide +kernel
theorem dX6_isFilledWith_34 : decode cX6_isFilledWith 34 = .ok (.aload_n 0, 1) := by decide +kernel
theorem dX6_isFilledWith_35 : decode cX6_isFilledWith 35 = .ok (.getfield 23, 3) := by decide +kernel
theorem dX6_isFilledWith_38 : decode cX6_isFilledWith 38 = .ok (.aload_n 0, 1) := by decide +kernel
theorem dX6_isFilledWith_39 : decode cX6_isFilledWith 39 = .ok (.getfield 19, 3) := by decide +kernel
theorem dX6_isFilledWith_42 : decode cX6_isFilledWith 42 = .ok (.getfield 153, 3) := by decide +kernel
theorem dX6_isFilledWith_45 : decode cX6_isFilledWith 45 = .ok (.iload_n 2, 1) := by decide +kernel
theorem dX6_isFilledWith_46 : decode cX6_isFilledWith 46 = .ok (.iaload, 1) := by decide +kernel
theorem dX6_isFilledWith_47 : decode cX6_isFilledWith 47 = .ok (.invokevirtual 196, 3) := by decide +kernel
theorem dX6_isFilledWith_50 : decode cX6_isFilledWith 50 = .ok (.aload_n 0, 1) := by decide +kernel
theorem dX6_isFilledWith_51 : decode cX6_isFilledWith 51 = .ok (.getfield 40, 3) := by decide +kernel
theorem dX6_isFilledWith_54 : decode cX6_isFilledWith 54 = .ok (.iload_n 2, 1) := by decide +kernel
theorem dX6_isFilledWith_55 : decode cX6_isFilledWith 55 = .ok (.invokevirtual 200, 3) := by decide +kernel
theorem dX6_isFilledWith_58 : decode cX6_isFilledWith 58 = .ok (.aload_n 0, 1) := by decide +kernel
theorem dX6_isFilledWith_59 : decode cX6_isFilledWith 59 = .ok (.getfield 19, 3) := by decide +kernel
theorem dX6_isFilledWith_62 : decode cX6_isFilledWith 62 = .ok (.getfield 156, 3) := by decide +kernel
theorem dX6_isFilledWith_65 : decode cX6_isFilledWith 65 = .ok (.iload_n 2, 1) := by decide +kernel
theorem dX6_isFilledWith_66 : decode cX6_isFilledWith 66 = .ok (.iaload, 1) := by decide +kernel
theorem dX6_isFilledWith_67 : decode cX6_isFilledWith 67 = .ok (.if_icmp .ne 7, 3) := by decide +kernel
theorem dX6_isFilledWith_70 : decode cX6_isFilledWith 70 = .ok (.iconst 1, 1) := by decide +kernel
theorem dX6_isFilledWith_71 : decode cX6_isFilledWith 71 = .ok (.goto 4, 3) := by decide +kernel
theorem dX6_isFilledWith_74 : decode cX6_isFilledWith 74 = .ok (.iconst 0, 1) := by decide +kernel
theorem dX6_isFilledWith_75 : decode cX6_isFilledWith 75 = .ok (.ireturn, 1) := by decide +kernel
