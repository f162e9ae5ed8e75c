theorem dX3_init_0 : decode cX3_init 0 = .ok (.aload_n 0, 1) := by decide +kernel
theorem dX3_init_1 : decode cX3_init 1 = .ok (.invokespecial 3, 3) := by decide +kernel
theorem dX3_init_4 : decode cX3_init 4 = .ok (.aload_n 0, 1) := by decide +kernel
theorem dX3_init_5 : decode cX3_init 5 = .ok (.sipush 640, 3) := by decide +kernel
theorem dX3_init_8 : decode cX3_init 8 = .ok (.newarray .byte, 2) := by decide +kernel
theorem dX3_init_10 : decode cX3_init 10 = .ok (.putfield 9, 3) := by decide +kernel
theorem dX3_init_13 : decode cX3_init 13 = .ok (.return_, 1) := by decide +kernel
theorem dX3_put_0 : decode cX3_put 0 = .ok (.bipush 24, 2) := by decide +kernel
theorem dX3_put_2 : decode cX3_put 2 = .ok (.istore_n 2, 1) := by decide +kernel
theorem dX3_put_3 : decode cX3_put 3 = .ok (.iload_n 2, 1) := by decide +kernel
theorem dX3_put_4 : decode cX3_put 4 = .ok (.ifCond .lt 42, 3) := by decide +kernel
theorem dX3_put_7 : decode cX3_put 7 = .ok (.aload_n 0, 1) := by decide +kernel
theorem dX3_put_8 : decode cX3_put 8 = .ok (.getfield 15, 3) := by decide +kernel
theorem dX3_put_11 : decode cX3_put 11 = .ok (.sipush 640, 3) := by decide +kernel
theorem dX3_put_14 : decode cX3_put 14 = .ok (.if_icmp .ge 32, 3) := by decide +kernel
theorem dX3_put_17 : decode cX3_put 17 = .ok (.aload_n 0, 1) := by decide +kernel
theorem dX3_put_18 : decode cX3_put 18 = .ok (.getfield 9, 3) := by decide +kernel
theorem dX3_put_21 : decode cX3_put 21 = .ok (.aload_n 0, 1) := by decide +kernel
theorem dX3_put_22 : decode cX3_put 22 = .ok (.getfield 15, 3) := by decide +kernel
theorem dX3_put_25 : decode cX3_put 25 = .ok (.iload_n 1, 1) := by decide +kernel
theorem dX3_put_26 : decode cX3_put 26 = .ok (.iload_n 2, 1) := by decide +kernel
theorem dX3_put_27 : decode cX3_put 27 = .ok (.ishr, 1) := by decide +kernel
theorem dX3_put_28 : decode cX3_put 28 = .ok (.i2b, 1) := by decide +kernel
theorem dX3_put_29 : decode cX3_put 29 = .ok (.bastore, 1) := by decide +kernel
theorem dX3_put_30 : decode cX3_put 30 = .ok (.aload_n 0, 1) := by decide +kernel
theorem dX3_put_31 : decode cX3_put 31 = .ok (.dup, 1) := by decide +kernel
theorem dX3_put_32 : decode cX3_put 32 = .ok (.getfield 15, 3) := by decide +kernel
theorem dX3_put_35 : decode cX3_put 35 = .ok (.iconst 1, 1) := by decide +kernel
theorem dX3_put_36 : decode cX3_put 36 = .ok (.iadd, 1) := by decide +kernel
theorem dX3_put_37 : decode cX3_put 37 = .ok (.putfield 15, 3) := by decide +kernel
theorem dX3_put_40 : decode cX3_put 40 = .ok (.iinc 2 (-8), 3) := by decide +kernel
theorem dX3_put_43 : decode cX3_put 43 = .ok (.goto (-40), 3) := by decide +kernel
theorem dX3_put_46 : decode cX3_put 46 = .ok (.return_, 1) := by decide +kernel
theorem dX4_init_0 : decode cX4_init 0 = .ok (.aload_n 0, 1) := by decide +kernel
theorem dX4_init_1 : decode cX4_init 1 = .ok (.invokespecial 3, 3) := by decide +kernel
theorem dX4_init_4 : decode cX4_init 4 = .ok (.aload_n 0, 1) := by decide +kernel
theorem dX4_init_5 : decode cX4_init 5 = .ok (.new 9, 3) := by decide +kernel
theorem dX4_init_8 : decode cX4_init 8 = .ok (.dup, 1) := by decide +kernel
theorem dX4_init_9 : decode cX4_init 9 = .ok (.aload_n 1, 1) := by decide +kernel
theorem dX4_init_10 : decode cX4_init 10 = .ok (.invokespecial 11, 3) := by decide +kernel
theorem dX4_init_13 : decode cX4_init 13 = .ok (.putfield 14, 3) := by decide +kernel
theorem dX4_init_16 : decode cX4_init 16 = .ok (.aload_n 0, 1) := by decide +kernel
theorem dX4_init_17 : decode cX4_init 17 = .ok (.aload_n 2, 1) := by decide +kernel
theorem dX4_init_18 : decode cX4_init 18 = .ok (.putfield 20, 3) := by decide +kernel
theorem dX4_init_21 : decode cX4_init 21 = .ok (.return_, 1) := by decide +kernel
theorem dX4_readAll_0 : decode cX4_readAll 0 = .ok (.aload_n 0, 1) := by decide +kernel
theorem dX4_readAll_1 : decode cX4_readAll 1 = .ok (.getfield 20, 3) := by decide +kernel
theorem dX4_readAll_4 : decode cX4_readAll 4 = .ok (.invokevirtual 24, 3) := by decide +kernel
theorem dX4_readAll_7 : decode cX4_readAll 7 = .ok (.aload_n 0, 1) := by decide +kernel
theorem dX4_readAll_8 : decode cX4_readAll 8 = .ok (.getfield 14, 3) := by decide +kernel
theorem dX4_readAll_11 : decode cX4_readAll 11 = .ok (.invokevirtual 29, 3) := by decide +kernel
theorem dX4_readAll_14 : decode cX4_readAll 14 = .ok (.aload_n 0, 1) := by decide +kernel
theorem dX4_readAll_15 : decode cX4_readAll 15 = .ok (.iconst 0, 1) := by decide +kernel
theorem dX4_readAll_16 : decode cX4_readAll 16 = .ok (.putfield 32, 3) := by decide +kernel
theorem dX4_readAll_19 : decode cX4_readAll 19 = .ok (.aload_n 0, 1) := by decide +kernel
theorem dX4_readAll_20 : decode cX4_readAll 20 = .ok (.iconst 0, 1) := by decide +kernel
theorem dX4_readAll_21 : decode cX4_readAll 21 = .ok (.putfield 36, 3) := by decide +kernel
theorem dX4_readAll_24 : decode cX4_readAll 24 = .ok (.aload_n 0, 1) := by decide +kernel
theorem dX4_readAll_25 : decode cX4_readAll 25 = .ok (.iconst 0, 1) := by decide +kernel
theorem dX4_readAll_26 : decode cX4_readAll 26 = .ok (.putfield 39, 3) := by decide +kernel
theorem dX4_readAll_29 : decode cX4_readAll 29 = .ok (.aload_n 0, 1) := by decide +kernel
theorem dX4_readAll_30 : decode cX4_readAll 30 = .ok (.invokevirtual 42, 3) := by decide +kernel
theorem dX4_readAll_33 : decode cX4_readAll 33 = .ok (.ifCond .eq 14, 3) := by decide +kernel
theorem dX4_readAll_36 : decode cX4_readAll 36 = .ok (.aload_n 0, 1) := by decide +kernel
theorem dX4_readAll_37 : decode cX4_readAll 37 = .ok (.invokevirtual 46, 3) := by decide +kernel
theorem dX4_readAll_40 : decode cX4_readAll 40 = .ok (.ifCond .eq 7, 3) := by decide +kernel
theorem dX4_readAll_43 : decode cX4_readAll 43 = .ok (.iconst 1, 1) := by decide +kernel
theorem dX4_readAll_44 : decode cX4_readAll 44 = .ok (.goto 4, 3) := by decide +kernel
theorem dX4_readAll_47 : decode cX4_readAll 47 = .ok (.iconst 0, 1) := by decide +kernel
theorem dX4_readAll_48 : decode cX4_readAll 48 = .ok (.ireturn, 1) := by decide +kernel
theorem dX4_readGoods_0 : decode cX4_readGoods 0 = .ok (.aload_n 0, 1) := by decide +kernel
theorem dX4_readGoods_1 : decode cX4_readGoods 1 = .ok (.getfield 14, 3) := by decide +kernel
theorem dX4_readGoods_4 : decode cX4_readGoods 4 = .ok (.invokevirtual 49, 3) := by decide +kernel
theorem dX4_readGoods_7 : decode cX4_readGoods 7 = .ok (.aload_n 0, 1) := by decide +kernel
theorem dX4_readGoods_8 : decode cX4_readGoods 8 = .ok (.getfield 14, 3) := by decide +kernel
theorem dX4_readGoods_11 : decode cX4_readGoods 11 = .ok (.getfield 52, 3) := by decide +kernel
theorem dX4_readGoods_14 : decode cX4_readGoods 14 = .ok (.iconst 4, 1) := by decide +kernel
theorem dX4_readGoods_15 : decode cX4_readGoods 15 = .ok (.if_icmp .eq 9, 3) := by decide +kernel
theorem dX4_readGoods_18 : decode cX4_readGoods 18 = .ok (.aload_n 0, 1) := by decide +kernel
theorem dX4_readGoods_19 : decode cX4_readGoods 19 = .ok (.iconst 1, 1) := by decide +kernel
theorem dX4_readGoods_20 : decode cX4_readGoods 20 = .ok (.invokevirtual 55, 3) := by decide +kernel
theorem dX4_readGoods_23 : decode cX4_readGoods 23 = .ok (.ireturn, 1) := by decide +kernel
theorem dX4_readGoods_24 : decode cX4_readGoods 24 = .ok (.aload_n 0, 1) := by decide +kernel
theorem dX4_readGoods_25 : decode cX4_readGoods 25 = .ok (.iconst 1, 1) := by decide +kernel
theorem dX4_readGoods_26 : decode cX4_readGoods 26 = .ok (.iconst 4, 1) := by decide +kernel
theorem dX4_readGoods_27 : decode cX4_readGoods 27 = .ok (.invokevirtual 59, 3) := by decide +kernel
theorem dX4_readGoods_30 : decode cX4_readGoods 30 = .ok (.istore_n 1, 1) := by decide +kernel
theorem dX4_readGoods_31 : decode cX4_readGoods 31 = .ok (.iload_n 1, 1) := by decide +kernel
theorem dX4_readGoods_32 : decode cX4_readGoods 32 = .ok (.iconst (-1), 1) := by decide +kernel
theorem dX4_readGoods_33 : decode cX4_readGoods 33 = .ok (.if_icmp .eq 10, 3) := by decide +kernel
theorem dX4_readGoods_36 : decode cX4_readGoods 36 = .ok (.aload_n 0, 1) := by decide +kernel
theorem dX4_readGoods_37 : decode cX4_readGoods 37 = .ok (.invokevirtual 63, 3) := by decide +kernel
theorem dX4_readGoods_40 : decode cX4_readGoods 40 = .ok (.ifCond .ne 5, 3) := by decide +kernel
theorem dX4_readGoods_43 : decode cX4_readGoods 43 = .ok (.iconst 0, 1) := by decide +kernel
theorem dX4_readGoods_44 : decode cX4_readGoods 44 = .ok (.ireturn, 1) := by decide +kernel
theorem dX4_readGoods_45 : decode cX4_readGoods 45 = .ok (.aload_n 0, 1) := by decide +kernel
theorem dX4_readGoods_46 : decode cX4_readGoods 46 = .ok (.getfield 20, 3) := by decide +kernel
theorem dX4_readGoods_49 : decode cX4_readGoods 49 = .ok (.iload_n 1, 1) := by decide +kernel
theorem dX4_readGoods_50 : decode cX4_readGoods 50 = .ok (.putfield 66, 3) := by decide +kernel
theorem dX4_readGoods_53 : decode cX4_readGoods 53 = .ok (.aload_n 0, 1) := by decide +kernel
theorem dX4_readGoods_54 : decode cX4_readGoods 54 = .ok (.iconst 1, 1) := by decide +kernel
theorem dX4_readGoods_55 : decode cX4_readGoods 55 = .ok (.putfield 32, 3) := by decide +kernel
theorem dX4_readGoods_58 : decode cX4_readGoods 58 = .ok (.iconst 1, 1) := by decide +kernel
theorem dX4_readGoods_59 : decode cX4_readGoods 59 = .ok (.ireturn, 1) := by decide +kernel
theorem dX4_readFurtherLines_0 : decode cX4_readFurtherLines 0 = .ok (.iconst 5, 1) := by decide +kernel
theorem dX4_readFurtherLines_1 : decode cX4_readFurtherLines 1 = .ok (.istore_n 1, 1) := by decide +kernel
theorem dX4_readFurtherLines_2 : decode cX4_readFurtherLines 2 = .ok (.iconst 0, 1) := by decide +kernel
theorem dX4_readFurtherLines_3 : decode cX4_readFurtherLines 3 = .ok (.istore_n 2, 1) := by decide +kernel
theorem dX4_readFurtherLines_4 : decode cX4_readFurtherLines 4 = .ok (.iload_n 2, 1) := by decide +kernel
theorem dX4_readFurtherLines_5 : decode cX4_readFurtherLines 5 = .ok (.sipush 640, 3) := by decide +kernel
theorem dX4_readFurtherLines_8 : decode cX4_readFurtherLines 8 = .ok (.if_icmp .ge 73, 3) := by decide +kernel
theorem dX4_readFurtherLines_11 : decode cX4_readFurtherLines 11 = .ok (.aload_n 0, 1) := by decide +kernel
theorem dX4_readFurtherLines_12 : decode cX4_readFurtherLines 12 = .ok (.getfield 14, 3) := by decide +kernel
theorem dX4_readFurtherLines_15 : decode cX4_readFurtherLines 15 = .ok (.invokevirtual 49, 3) := by decide +kernel
theorem dX4_readFurtherLines_18 : decode cX4_readFurtherLines 18 = .ok (.aload_n 0, 1) := by decide +kernel
theorem dX4_readFurtherLines_19 : decode cX4_readFurtherLines 19 = .ok (.getfield 14, 3) := by decide +kernel
theorem dX4_readFurtherLines_22 : decode cX4_readFurtherLines 22 = .ok (.getfield 52, 3) := by decide +kernel
theorem dX4_readFurtherLines_25 : decode cX4_readFurtherLines 25 = .ok (.ifCond .ne 5, 3) := by decide +kernel
theorem dX4_readFurtherLines_28 : decode cX4_readFurtherLines 28 = .ok (.iconst 1, 1) := by decide +kernel
theorem dX4_readFurtherLines_29 : decode cX4_readFurtherLines 29 = .ok (.ireturn, 1) := by decide +kernel
theorem dX4_readFurtherLines_30 : decode cX4_readFurtherLines 30 = .ok (.aload_n 0, 1) := by decide +kernel
theorem dX4_readFurtherLines_31 : decode cX4_readFurtherLines 31 = .ok (.getfield 14, 3) := by decide +kernel
theorem dX4_readFurtherLines_34 : decode cX4_readFurtherLines 34 = .ok (.getfield 52, 3) := by decide +kernel
theorem dX4_readFurtherLines_37 : decode cX4_readFurtherLines 37 = .ok (.iload_n 1, 1) := by decide +kernel
theorem dX4_readFurtherLines_38 : decode cX4_readFurtherLines 38 = .ok (.if_icmp .ge 9, 3) := by decide +kernel
theorem dX4_readFurtherLines_41 : decode cX4_readFurtherLines 41 = .ok (.aload_n 0, 1) := by decide +kernel
theorem dX4_readFurtherLines_42 : decode cX4_readFurtherLines 42 = .ok (.iconst 1, 1) := by decide +kernel
theorem dX4_readFurtherLines_43 : decode cX4_readFurtherLines 43 = .ok (.invokevirtual 55, 3) := by decide +kernel
theorem dX4_readFurtherLines_46 : decode cX4_readFurtherLines 46 = .ok (.ireturn, 1) := by decide +kernel
theorem dX4_readFurtherLines_47 : decode cX4_readFurtherLines 47 = .ok (.aload_n 0, 1) := by decide +kernel
theorem dX4_readFurtherLines_48 : decode cX4_readFurtherLines 48 = .ok (.getfield 14, 3) := by decide +kernel
theorem dX4_readFurtherLines_51 : decode cX4_readFurtherLines 51 = .ok (.getfield 52, 3) := by decide +kernel
theorem dX4_readFurtherLines_54 : decode cX4_readFurtherLines 54 = .ok (.istore_n 1, 1) := by decide +kernel
theorem dX4_readFurtherLines_55 : decode cX4_readFurtherLines 55 = .ok (.aload_n 0, 1) := by decide +kernel
theorem dX4_readFurtherLines_56 : decode cX4_readFurtherLines 56 = .ok (.iload_n 1, 1) := by decide +kernel
theorem dX4_readFurtherLines_57 : decode cX4_readFurtherLines 57 = .ok (.invokevirtual 69, 3) := by decide +kernel
theorem dX4_readFurtherLines_60 : decode cX4_readFurtherLines 60 = .ok (.ifCond .ne 5, 3) := by decide +kernel
theorem dX4_readFurtherLines_63 : decode cX4_readFurtherLines 63 = .ok (.iconst 0, 1) := by decide +kernel
theorem dX4_readFurtherLines_64 : decode cX4_readFurtherLines 64 = .ok (.ireturn, 1) := by decide +kernel
theorem dX4_readFurtherLines_65 : decode cX4_readFurtherLines 65 = .ok (.aload_n 0, 1) := by decide +kernel
theorem dX4_readFurtherLines_66 : decode cX4_readFurtherLines 66 = .ok (.dup, 1) := by decide +kernel
theorem dX4_readFurtherLines_67 : decode cX4_readFurtherLines 67 = .ok (.getfield 32, 3) := by decide +kernel
theorem dX4_readFurtherLines_70 : decode cX4_readFurtherLines 70 = .ok (.iconst 1, 1) := by decide +kernel
theorem dX4_readFurtherLines_71 : decode cX4_readFurtherLines 71 = .ok (.iadd, 1) := by decide +kernel
theorem dX4_readFurtherLines_72 : decode cX4_readFurtherLines 72 = .ok (.putfield 32, 3) := by decide +kernel
theorem dX4_readFurtherLines_75 : decode cX4_readFurtherLines 75 = .ok (.iinc 2 1, 3) := by decide +kernel
theorem dX4_readFurtherLines_78 : decode cX4_readFurtherLines 78 = .ok (.goto (-74), 3) := by decide +kernel
theorem dX4_readFurtherLines_81 : decode cX4_readFurtherLines 81 = .ok (.aload_n 0, 1) := by decide +kernel
theorem dX4_readFurtherLines_82 : decode cX4_readFurtherLines 82 = .ok (.iconst 1, 1) := by decide +kernel
theorem dX4_readFurtherLines_83 : decode cX4_readFurtherLines 83 = .ok (.invokevirtual 55, 3) := by decide +kernel
theorem dX4_readFurtherLines_86 : decode cX4_readFurtherLines 86 = .ok (.ireturn, 1) := by decide +kernel
theorem dX4_readLine_0 : decode cX4_readLine 0 = .ok (.iload_n 1, 1) := by decide +kernel
theorem dX4_readLine_1 : decode cX4_readLine 1 = .ok (.iconst 5, 1) := by decide +kernel
theorem dX4_readLine_2 : decode cX4_readLine 2 = .ok (.if_icmp .ne 28, 3) := by decide +kernel
theorem dX4_readLine_5 : decode cX4_readLine 5 = .ok (.aload_n 0, 1) := by decide +kernel
theorem dX4_readLine_6 : decode cX4_readLine 6 = .ok (.getfield 20, 3) := by decide +kernel
theorem dX4_readLine_9 : decode cX4_readLine 9 = .ok (.getfield 72, 3) := by decide +kernel
theorem dX4_readLine_12 : decode cX4_readLine 12 = .ok (.bipush 6, 2) := by decide +kernel
theorem dX4_readLine_14 : decode cX4_readLine 14 = .ok (.if_icmp .ge 10, 3) := by decide +kernel
theorem dX4_readLine_17 : decode cX4_readLine 17 = .ok (.aload_n 0, 1) := by decide +kernel
theorem dX4_readLine_18 : decode cX4_readLine 18 = .ok (.invokevirtual 75, 3) := by decide +kernel
theorem dX4_readLine_21 : decode cX4_readLine 21 = .ok (.goto 8, 3) := by decide +kernel
theorem dX4_readLine_24 : decode cX4_readLine 24 = .ok (.aload_n 0, 1) := by decide +kernel
theorem dX4_readLine_25 : decode cX4_readLine 25 = .ok (.iconst 3, 1) := by decide +kernel
theorem dX4_readLine_26 : decode cX4_readLine 26 = .ok (.invokevirtual 55, 3) := by decide +kernel
theorem dX4_readLine_29 : decode cX4_readLine 29 = .ok (.ireturn, 1) := by decide +kernel
theorem dX4_readLine_30 : decode cX4_readLine 30 = .ok (.iload_n 1, 1) := by decide +kernel
theorem dX4_readLine_31 : decode cX4_readLine 31 = .ok (.bipush 6, 2) := by decide +kernel
theorem dX4_readLine_33 : decode cX4_readLine 33 = .ok (.if_icmp .ne 28, 3) := by decide +kernel
theorem dX4_readLine_36 : decode cX4_readLine 36 = .ok (.aload_n 0, 1) := by decide +kernel
theorem dX4_readLine_37 : decode cX4_readLine 37 = .ok (.getfield 20, 3) := by decide +kernel
theorem dX4_readLine_40 : decode cX4_readLine 40 = .ok (.getfield 78, 3) := by decide +kernel
theorem dX4_readLine_43 : decode cX4_readLine 43 = .ok (.bipush 12, 2) := by decide +kernel
theorem dX4_readLine_45 : decode cX4_readLine 45 = .ok (.if_icmp .ge 10, 3) := by decide +kernel
theorem dX4_readLine_48 : decode cX4_readLine 48 = .ok (.aload_n 0, 1) := by decide +kernel
theorem dX4_readLine_49 : decode cX4_readLine 49 = .ok (.invokevirtual 81, 3) := by decide +kernel
theorem dX4_readLine_52 : decode cX4_readLine 52 = .ok (.goto 8, 3) := by decide +kernel
theorem dX4_readLine_55 : decode cX4_readLine 55 = .ok (.aload_n 0, 1) := by decide +kernel
theorem dX4_readLine_56 : decode cX4_readLine 56 = .ok (.iconst 3, 1) := by decide +kernel
theorem dX4_readLine_57 : decode cX4_readLine 57 = .ok (.invokevirtual 55, 3) := by decide +kernel
theorem dX4_readLine_60 : decode cX4_readLine 60 = .ok (.ireturn, 1) := by decide +kernel
theorem dX4_readLine_61 : decode cX4_readLine 61 = .ok (.aload_n 0, 1) := by decide +kernel
theorem dX4_readLine_62 : decode cX4_readLine 62 = .ok (.getfield 20, 3) := by decide +kernel
theorem dX4_readLine_65 : decode cX4_readLine 65 = .ok (.getfield 84, 3) := by decide +kernel
theorem dX4_readLine_68 : decode cX4_readLine 68 = .ok (.bipush 12, 2) := by decide +kernel
theorem dX4_readLine_70 : decode cX4_readLine 70 = .ok (.if_icmp .ge 10, 3) := by decide +kernel
theorem dX4_readLine_73 : decode cX4_readLine 73 = .ok (.aload_n 0, 1) := by decide +kernel
theorem dX4_readLine_74 : decode cX4_readLine 74 = .ok (.invokevirtual 87, 3) := by decide +kernel
theorem dX4_readLine_77 : decode cX4_readLine 77 = .ok (.goto 8, 3) := by decide +kernel
theorem dX4_readLine_80 : decode cX4_readLine 80 = .ok (.aload_n 0, 1) := by decide +kernel
theorem dX4_readLine_81 : decode cX4_readLine 81 = .ok (.iconst 3, 1) := by decide +kernel
theorem dX4_readLine_82 : decode cX4_readLine 82 = .ok (.invokevirtual 55, 3) := by decide +kernel
theorem dX4_readLine_85 : decode cX4_readLine 85 = .ok (.ireturn, 1) := by decide +kernel
theorem dX4_readCustomer_0 : decode cX4_readCustomer 0 = .ok (.aload_n 0, 1) := by decide +kernel
theorem dX4_readCustomer_1 : decode cX4_readCustomer 1 = .ok (.iconst 0, 1) := by decide +kernel
theorem dX4_readCustomer_2 : decode cX4_readCustomer 2 = .ok (.bipush 99, 2) := by decide +kernel
theorem dX4_readCustomer_4 : decode cX4_readCustomer 4 = .ok (.invokevirtual 59, 3) := by decide +kernel
theorem dX4_readCustomer_7 : decode cX4_readCustomer 7 = .ok (.istore_n 1, 1) := by decide +kernel
theorem dX4_readCustomer_8 : decode cX4_readCustomer 8 = .ok (.iload_n 1, 1) := by decide +kernel
theorem dX4_readCustomer_9 : decode cX4_readCustomer 9 = .ok (.iconst (-1), 1) := by decide +kernel
theorem dX4_readCustomer_10 : decode cX4_readCustomer 10 = .ok (.if_icmp .eq 10, 3) := by decide +kernel
theorem dX4_readCustomer_13 : decode cX4_readCustomer 13 = .ok (.aload_n 0, 1) := by decide +kernel
theorem dX4_readCustomer_14 : decode cX4_readCustomer 14 = .ok (.invokevirtual 63, 3) := by decide +kernel
theorem dX4_readCustomer_17 : decode cX4_readCustomer 17 = .ok (.ifCond .ne 5, 3) := by decide +kernel
theorem dX4_readCustomer_20 : decode cX4_readCustomer 20 = .ok (.iconst 0, 1) := by decide +kernel
theorem dX4_readCustomer_21 : decode cX4_readCustomer 21 = .ok (.ireturn, 1) := by decide +kernel
theorem dX4_readCustomer_22 : decode cX4_readCustomer 22 = .ok (.aload_n 0, 1) := by decide +kernel
theorem dX4_readCustomer_23 : decode cX4_readCustomer 23 = .ok (.getfield 20, 3) := by decide +kernel
theorem dX4_readCustomer_26 : decode cX4_readCustomer 26 = .ok (.iload_n 1, 1) := by decide +kernel
theorem dX4_readCustomer_27 : decode cX4_readCustomer 27 = .ok (.invokevirtual 90, 3) := by decide +kernel
theorem dX4_readCustomer_30 : decode cX4_readCustomer 30 = .ok (.iconst 1, 1) := by decide +kernel
theorem dX4_readCustomer_31 : decode cX4_readCustomer 31 = .ok (.ireturn, 1) := by decide +kernel
theorem dX4_readLot_0 : decode cX4_readLot 0 = .ok (.aload_n 0, 1) := by decide +kernel
theorem dX4_readLot_1 : decode cX4_readLot 1 = .ok (.iconst 0, 1) := by decide +kernel
theorem dX4_readLot_2 : decode cX4_readLot 2 = .ok (.aload_n 0, 1) := by decide +kernel
theorem dX4_readLot_3 : decode cX4_readLot 3 = .ok (.getfield 20, 3) := by decide +kernel
theorem dX4_readLot_6 : decode cX4_readLot 6 = .ok (.getfield 66, 3) := by decide +kernel
theorem dX4_readLot_9 : decode cX4_readLot 9 = .ok (.iconst 1, 1) := by decide +kernel
theorem dX4_readLot_10 : decode cX4_readLot 10 = .ok (.isub, 1) := by decide +kernel
theorem dX4_readLot_11 : decode cX4_readLot 11 = .ok (.invokevirtual 59, 3) := by decide +kernel
theorem dX4_readLot_14 : decode cX4_readLot 14 = .ok (.istore_n 1, 1) := by decide +kernel
theorem dX4_readLot_15 : decode cX4_readLot 15 = .ok (.iload_n 1, 1) := by decide +kernel
theorem dX4_readLot_16 : decode cX4_readLot 16 = .ok (.iconst (-1), 1) := by decide +kernel
theorem dX4_readLot_17 : decode cX4_readLot 17 = .ok (.if_icmp .ne 5, 3) := by decide +kernel
theorem dX4_readLot_20 : decode cX4_readLot 20 = .ok (.iconst 0, 1) := by decide +kernel
theorem dX4_readLot_21 : decode cX4_readLot 21 = .ok (.ireturn, 1) := by decide +kernel
theorem dX4_readLot_22 : decode cX4_readLot 22 = .ok (.aload_n 0, 1) := by decide +kernel
theorem dX4_readLot_23 : decode cX4_readLot 23 = .ok (.iconst 0, 1) := by decide +kernel
theorem dX4_readLot_24 : decode cX4_readLot 24 = .ok (.bipush 99, 2) := by decide +kernel
theorem dX4_readLot_26 : decode cX4_readLot 26 = .ok (.invokevirtual 59, 3) := by decide +kernel
theorem dX4_readLot_29 : decode cX4_readLot 29 = .ok (.istore_n 2, 1) := by decide +kernel
theorem dX4_readLot_30 : decode cX4_readLot 30 = .ok (.iload_n 2, 1) := by decide +kernel
theorem dX4_readLot_31 : decode cX4_readLot 31 = .ok (.iconst (-1), 1) := by decide +kernel
theorem dX4_readLot_32 : decode cX4_readLot 32 = .ok (.if_icmp .ne 5, 3) := by decide +kernel
theorem dX4_readLot_35 : decode cX4_readLot 35 = .ok (.iconst 0, 1) := by decide +kernel
theorem dX4_readLot_36 : decode cX4_readLot 36 = .ok (.ireturn, 1) := by decide +kernel
theorem dX4_readLot_37 : decode cX4_readLot 37 = .ok (.aload_n 0, 1) := by decide +kernel
theorem dX4_readLot_38 : decode cX4_readLot 38 = .ok (.iconst 1, 1) := by decide +kernel
theorem dX4_readLot_39 : decode cX4_readLot 39 = .ok (.bipush 99, 2) := by decide +kernel
theorem dX4_readLot_41 : decode cX4_readLot 41 = .ok (.invokevirtual 59, 3) := by decide +kernel
theorem dX4_readLot_44 : decode cX4_readLot 44 = .ok (.istore_n 3, 1) := by decide +kernel
theorem dX4_readLot_45 : decode cX4_readLot 45 = .ok (.iload_n 3, 1) := by decide +kernel
theorem dX4_readLot_46 : decode cX4_readLot 46 = .ok (.iconst (-1), 1) := by decide +kernel
theorem dX4_readLot_47 : decode cX4_readLot 47 = .ok (.if_icmp .ne 5, 3) := by decide +kernel
theorem dX4_readLot_50 : decode cX4_readLot 50 = .ok (.iconst 0, 1) := by decide +kernel
theorem dX4_readLot_51 : decode cX4_readLot 51 = .ok (.ireturn, 1) := by decide +kernel
theorem dX4_readLot_52 : decode cX4_readLot 52 = .ok (.aload_n 0, 1) := by decide +kernel
theorem dX4_readLot_53 : decode cX4_readLot 53 = .ok (.iconst 0, 1) := by decide +kernel
theorem dX4_readLot_54 : decode cX4_readLot 54 = .ok (.bipush 99, 2) := by decide +kernel
theorem dX4_readLot_56 : decode cX4_readLot 56 = .ok (.invokevirtual 59, 3) := by decide +kernel
theorem dX4_readLot_59 : decode cX4_readLot 59 = .ok (.istore 4, 2) := by decide +kernel
theorem dX4_readLot_61 : decode cX4_readLot 61 = .ok (.iload 4, 2) := by decide +kernel
theorem dX4_readLot_63 : decode cX4_readLot 63 = .ok (.iconst (-1), 1) := by decide +kernel
theorem dX4_readLot_64 : decode cX4_readLot 64 = .ok (.if_icmp .eq 10, 3) := by decide +kernel
theorem dX4_readLot_67 : decode cX4_readLot 67 = .ok (.aload_n 0, 1) := by decide +kernel
theorem dX4_readLot_68 : decode cX4_readLot 68 = .ok (.invokevirtual 63, 3) := by decide +kernel
theorem dX4_readLot_71 : decode cX4_readLot 71 = .ok (.ifCond .ne 5, 3) := by decide +kernel
theorem dX4_readLot_74 : decode cX4_readLot 74 = .ok (.iconst 0, 1) := by decide +kernel
theorem dX4_readLot_75 : decode cX4_readLot 75 = .ok (.ireturn, 1) := by decide +kernel
theorem dX4_readLot_76 : decode cX4_readLot 76 = .ok (.aload_n 0, 1) := by decide +kernel
theorem dX4_readLot_77 : decode cX4_readLot 77 = .ok (.getfield 20, 3) := by decide +kernel
theorem dX4_readLot_80 : decode cX4_readLot 80 = .ok (.iload_n 1, 1) := by decide +kernel
theorem dX4_readLot_81 : decode cX4_readLot 81 = .ok (.iload_n 2, 1) := by decide +kernel
theorem dX4_readLot_82 : decode cX4_readLot 82 = .ok (.iload_n 3, 1) := by decide +kernel
theorem dX4_readLot_83 : decode cX4_readLot 83 = .ok (.iload 4, 2) := by decide +kernel
theorem dX4_readLot_85 : decode cX4_readLot 85 = .ok (.invokevirtual 94, 3) := by decide +kernel
theorem dX4_readLot_88 : decode cX4_readLot 88 = .ok (.pop, 1) := by decide +kernel
theorem dX4_readLot_89 : decode cX4_readLot 89 = .ok (.iconst 1, 1) := by decide +kernel
theorem dX4_readLot_90 : decode cX4_readLot 90 = .ok (.ireturn, 1) := by decide +kernel
theorem dX4_readOrder_0 : decode cX4_readOrder 0 = .ok (.aload_n 0, 1) := by decide +kernel
theorem dX4_readOrder_1 : decode cX4_readOrder 1 = .ok (.iconst 0, 1) := by decide +kernel
theorem dX4_readOrder_2 : decode cX4_readOrder 2 = .ok (.aload_n 0, 1) := by decide +kernel
theorem dX4_readOrder_3 : decode cX4_readOrder 3 = .ok (.getfield 20, 3) := by decide +kernel
theorem dX4_readOrder_6 : decode cX4_readOrder 6 = .ok (.getfield 72, 3) := by decide +kernel
theorem dX4_readOrder_9 : decode cX4_readOrder 9 = .ok (.iconst 1, 1) := by decide +kernel
theorem dX4_readOrder_10 : decode cX4_readOrder 10 = .ok (.isub, 1) := by decide +kernel
theorem dX4_readOrder_11 : decode cX4_readOrder 11 = .ok (.invokevirtual 59, 3) := by decide +kernel
theorem dX4_readOrder_14 : decode cX4_readOrder 14 = .ok (.istore_n 1, 1) := by decide +kernel
theorem dX4_readOrder_15 : decode cX4_readOrder 15 = .ok (.iload_n 1, 1) := by decide +kernel
theorem dX4_readOrder_16 : decode cX4_readOrder 16 = .ok (.iconst (-1), 1) := by decide +kernel
theorem dX4_readOrder_17 : decode cX4_readOrder 17 = .ok (.if_icmp .ne 5, 3) := by decide +kernel
theorem dX4_readOrder_20 : decode cX4_readOrder 20 = .ok (.iconst 0, 1) := by decide +kernel
theorem dX4_readOrder_21 : decode cX4_readOrder 21 = .ok (.ireturn, 1) := by decide +kernel
theorem dX4_readOrder_22 : decode cX4_readOrder 22 = .ok (.aload_n 0, 1) := by decide +kernel
theorem dX4_readOrder_23 : decode cX4_readOrder 23 = .ok (.iconst 0, 1) := by decide +kernel
theorem dX4_readOrder_24 : decode cX4_readOrder 24 = .ok (.aload_n 0, 1) := by decide +kernel
theorem dX4_readOrder_25 : decode cX4_readOrder 25 = .ok (.getfield 20, 3) := by decide +kernel
theorem dX4_readOrder_28 : decode cX4_readOrder 28 = .ok (.getfield 66, 3) := by decide +kernel
theorem dX4_readOrder_31 : decode cX4_readOrder 31 = .ok (.iconst 1, 1) := by decide +kernel
theorem dX4_readOrder_32 : decode cX4_readOrder 32 = .ok (.isub, 1) := by decide +kernel
theorem dX4_readOrder_33 : decode cX4_readOrder 33 = .ok (.invokevirtual 59, 3) := by decide +kernel
theorem dX4_readOrder_36 : decode cX4_readOrder 36 = .ok (.istore_n 2, 1) := by decide +kernel
theorem dX4_readOrder_37 : decode cX4_readOrder 37 = .ok (.iload_n 2, 1) := by decide +kernel
theorem dX4_readOrder_38 : decode cX4_readOrder 38 = .ok (.iconst (-1), 1) := by decide +kernel
theorem dX4_readOrder_39 : decode cX4_readOrder 39 = .ok (.if_icmp .ne 5, 3) := by decide +kernel
theorem dX4_readOrder_42 : decode cX4_readOrder 42 = .ok (.iconst 0, 1) := by decide +kernel
theorem dX4_readOrder_43 : decode cX4_readOrder 43 = .ok (.ireturn, 1) := by decide +kernel
theorem dX4_readOrder_44 : decode cX4_readOrder 44 = .ok (.aload_n 0, 1) := by decide +kernel
theorem dX4_readOrder_45 : decode cX4_readOrder 45 = .ok (.getfield 20, 3) := by decide +kernel
theorem dX4_readOrder_48 : decode cX4_readOrder 48 = .ok (.iload_n 1, 1) := by decide +kernel
theorem dX4_readOrder_49 : decode cX4_readOrder 49 = .ok (.iload_n 2, 1) := by decide +kernel
theorem dX4_readOrder_50 : decode cX4_readOrder 50 = .ok (.invokevirtual 98, 3) := by decide +kernel
theorem dX4_readOrder_53 : decode cX4_readOrder 53 = .ok (.iconst (-1), 1) := by decide +kernel
theorem dX4_readOrder_54 : decode cX4_readOrder 54 = .ok (.if_icmp .eq 9, 3) := by decide +kernel
theorem dX4_readOrder_57 : decode cX4_readOrder 57 = .ok (.aload_n 0, 1) := by decide +kernel
theorem dX4_readOrder_58 : decode cX4_readOrder 58 = .ok (.iconst 2, 1) := by decide +kernel
theorem dX4_readOrder_59 : decode cX4_readOrder 59 = .ok (.invokevirtual 55, 3) := by decide +kernel
theorem dX4_readOrder_62 : decode cX4_readOrder 62 = .ok (.ireturn, 1) := by decide +kernel
theorem dX4_readOrder_63 : decode cX4_readOrder 63 = .ok (.aload_n 0, 1) := by decide +kernel
theorem dX4_readOrder_64 : decode cX4_readOrder 64 = .ok (.iconst 1, 1) := by decide +kernel
theorem dX4_readOrder_65 : decode cX4_readOrder 65 = .ok (.bipush 99, 2) := by decide +kernel
theorem dX4_readOrder_67 : decode cX4_readOrder 67 = .ok (.invokevirtual 59, 3) := by decide +kernel
theorem dX4_readOrder_70 : decode cX4_readOrder 70 = .ok (.istore_n 3, 1) := by decide +kernel
theorem dX4_readOrder_71 : decode cX4_readOrder 71 = .ok (.iload_n 3, 1) := by decide +kernel
theorem dX4_readOrder_72 : decode cX4_readOrder 72 = .ok (.iconst (-1), 1) := by decide +kernel
theorem dX4_readOrder_73 : decode cX4_readOrder 73 = .ok (.if_icmp .ne 5, 3) := by decide +kernel
theorem dX4_readOrder_76 : decode cX4_readOrder 76 = .ok (.iconst 0, 1) := by decide +kernel
theorem dX4_readOrder_77 : decode cX4_readOrder 77 = .ok (.ireturn, 1) := by decide +kernel
theorem dX4_readOrder_78 : decode cX4_readOrder 78 = .ok (.aload_n 0, 1) := by decide +kernel
theorem dX4_readOrder_79 : decode cX4_readOrder 79 = .ok (.iconst 0, 1) := by decide +kernel
theorem dX4_readOrder_80 : decode cX4_readOrder 80 = .ok (.bipush 99, 2) := by decide +kernel
theorem dX4_readOrder_82 : decode cX4_readOrder 82 = .ok (.invokevirtual 59, 3) := by decide +kernel
theorem dX4_readOrder_85 : decode cX4_readOrder 85 = .ok (.istore 4, 2) := by decide +kernel
theorem dX4_readOrder_87 : decode cX4_readOrder 87 = .ok (.iload 4, 2) := by decide +kernel
theorem dX4_readOrder_89 : decode cX4_readOrder 89 = .ok (.iconst (-1), 1) := by decide +kernel
theorem dX4_readOrder_90 : decode cX4_readOrder 90 = .ok (.if_icmp .eq 10, 3) := by decide +kernel
theorem dX4_readOrder_93 : decode cX4_readOrder 93 = .ok (.aload_n 0, 1) := by decide +kernel
theorem dX4_readOrder_94 : decode cX4_readOrder 94 = .ok (.invokevirtual 63, 3) := by decide +kernel
theorem dX4_readOrder_97 : decode cX4_readOrder 97 = .ok (.ifCond .ne 5, 3) := by decide +kernel
theorem dX4_readOrder_100 : decode cX4_readOrder 100 = .ok (.iconst 0, 1) := by decide +kernel
theorem dX4_readOrder_101 : decode cX4_readOrder 101 = .ok (.ireturn, 1) := by decide +kernel
theorem dX4_readOrder_102 : decode cX4_readOrder 102 = .ok (.aload_n 0, 1) := by decide +kernel
theorem dX4_readOrder_103 : decode cX4_readOrder 103 = .ok (.getfield 20, 3) := by decide +kernel
theorem dX4_readOrder_106 : decode cX4_readOrder 106 = .ok (.iload_n 1, 1) := by decide +kernel
theorem dX4_readOrder_107 : decode cX4_readOrder 107 = .ok (.iload_n 2, 1) := by decide +kernel
theorem dX4_readOrder_108 : decode cX4_readOrder 108 = .ok (.iload_n 3, 1) := by decide +kernel
theorem dX4_readOrder_109 : decode cX4_readOrder 109 = .ok (.iload 4, 2) := by decide +kernel
theorem dX4_readOrder_111 : decode cX4_readOrder 111 = .ok (.invokevirtual 101, 3) := by decide +kernel
theorem dX4_readOrder_114 : decode cX4_readOrder 114 = .ok (.pop, 1) := by decide +kernel
theorem dX4_readOrder_115 : decode cX4_readOrder 115 = .ok (.iconst 1, 1) := by decide +kernel
theorem dX4_readOrder_116 : decode cX4_readOrder 116 = .ok (.ireturn, 1) := by decide +kernel
theorem dX4_readNumber_0 : decode cX4_readNumber 0 = .ok (.aload_n 0, 1) := by decide +kernel
theorem dX4_readNumber_1 : decode cX4_readNumber 1 = .ok (.getfield 14, 3) := by decide +kernel
theorem dX4_readNumber_4 : decode cX4_readNumber 4 = .ok (.invokevirtual 49, 3) := by decide +kernel
theorem dX4_readNumber_7 : decode cX4_readNumber 7 = .ok (.aload_n 0, 1) := by decide +kernel
theorem dX4_readNumber_8 : decode cX4_readNumber 8 = .ok (.getfield 14, 3) := by decide +kernel
theorem dX4_readNumber_11 : decode cX4_readNumber 11 = .ok (.getfield 52, 3) := by decide +kernel
theorem dX4_readNumber_14 : decode cX4_readNumber 14 = .ok (.iconst 2, 1) := by decide +kernel
theorem dX4_readNumber_15 : decode cX4_readNumber 15 = .ok (.if_icmp .eq 11, 3) := by decide +kernel
theorem dX4_readNumber_18 : decode cX4_readNumber 18 = .ok (.aload_n 0, 1) := by decide +kernel
theorem dX4_readNumber_19 : decode cX4_readNumber 19 = .ok (.iconst 1, 1) := by decide +kernel
theorem dX4_readNumber_20 : decode cX4_readNumber 20 = .ok (.invokevirtual 55, 3) := by decide +kernel
theorem dX4_readNumber_23 : decode cX4_readNumber 23 = .ok (.pop, 1) := by decide +kernel
theorem dX4_readNumber_24 : decode cX4_readNumber 24 = .ok (.iconst (-1), 1) := by decide +kernel
theorem dX4_readNumber_25 : decode cX4_readNumber 25 = .ok (.ireturn, 1) := by decide +kernel
theorem dX4_readNumber_26 : decode cX4_readNumber 26 = .ok (.aload_n 0, 1) := by decide +kernel
theorem dX4_readNumber_27 : decode cX4_readNumber 27 = .ok (.getfield 14, 3) := by decide +kernel
theorem dX4_readNumber_30 : decode cX4_readNumber 30 = .ok (.getfield 104, 3) := by decide +kernel
theorem dX4_readNumber_33 : decode cX4_readNumber 33 = .ok (.iload_n 1, 1) := by decide +kernel
theorem dX4_readNumber_34 : decode cX4_readNumber 34 = .ok (.if_icmp .lt 14, 3) := by decide +kernel
theorem dX4_readNumber_37 : decode cX4_readNumber 37 = .ok (.aload_n 0, 1) := by decide +kernel
theorem dX4_readNumber_38 : decode cX4_readNumber 38 = .ok (.getfield 14, 3) := by decide +kernel
theorem dX4_readNumber_41 : decode cX4_readNumber 41 = .ok (.getfield 104, 3) := by decide +kernel
theorem dX4_readNumber_44 : decode cX4_readNumber 44 = .ok (.iload_n 2, 1) := by decide +kernel
theorem dX4_readNumber_45 : decode cX4_readNumber 45 = .ok (.if_icmp .le 11, 3) := by decide +kernel
theorem dX4_readNumber_48 : decode cX4_readNumber 48 = .ok (.aload_n 0, 1) := by decide +kernel
theorem dX4_readNumber_49 : decode cX4_readNumber 49 = .ok (.iconst 2, 1) := by decide +kernel
theorem dX4_readNumber_50 : decode cX4_readNumber 50 = .ok (.invokevirtual 55, 3) := by decide +kernel
theorem dX4_readNumber_53 : decode cX4_readNumber 53 = .ok (.pop, 1) := by decide +kernel
theorem dX4_readNumber_54 : decode cX4_readNumber 54 = .ok (.iconst (-1), 1) := by decide +kernel
theorem dX4_readNumber_55 : decode cX4_readNumber 55 = .ok (.ireturn, 1) := by decide +kernel
theorem dX4_readNumber_56 : decode cX4_readNumber 56 = .ok (.aload_n 0, 1) := by decide +kernel
theorem dX4_readNumber_57 : decode cX4_readNumber 57 = .ok (.getfield 14, 3) := by decide +kernel
theorem dX4_readNumber_60 : decode cX4_readNumber 60 = .ok (.getfield 104, 3) := by decide +kernel
theorem dX4_readNumber_63 : decode cX4_readNumber 63 = .ok (.ireturn, 1) := by decide +kernel
theorem dX4_readStop_0 : decode cX4_readStop 0 = .ok (.aload_n 0, 1) := by decide +kernel
theorem dX4_readStop_1 : decode cX4_readStop 1 = .ok (.getfield 14, 3) := by decide +kernel
theorem dX4_readStop_4 : decode cX4_readStop 4 = .ok (.invokevirtual 49, 3) := by decide +kernel
theorem dX4_readStop_7 : decode cX4_readStop 7 = .ok (.aload_n 0, 1) := by decide +kernel
theorem dX4_readStop_8 : decode cX4_readStop 8 = .ok (.getfield 14, 3) := by decide +kernel
theorem dX4_readStop_11 : decode cX4_readStop 11 = .ok (.getfield 52, 3) := by decide +kernel
theorem dX4_readStop_14 : decode cX4_readStop 14 = .ok (.iconst 3, 1) := by decide +kernel
theorem dX4_readStop_15 : decode cX4_readStop 15 = .ok (.if_icmp .eq 11, 3) := by decide +kernel
theorem dX4_readStop_18 : decode cX4_readStop 18 = .ok (.aload_n 0, 1) := by decide +kernel
theorem dX4_readStop_19 : decode cX4_readStop 19 = .ok (.iconst 1, 1) := by decide +kernel
theorem dX4_readStop_20 : decode cX4_readStop 20 = .ok (.invokevirtual 55, 3) := by decide +kernel
theorem dX4_readStop_23 : decode cX4_readStop 23 = .ok (.ifCond .eq 7, 3) := by decide +kernel
theorem dX4_readStop_26 : decode cX4_readStop 26 = .ok (.iconst 1, 1) := by decide +kernel
theorem dX4_readStop_27 : decode cX4_readStop 27 = .ok (.goto 4, 3) := by decide +kernel
theorem dX4_readStop_30 : decode cX4_readStop 30 = .ok (.iconst 0, 1) := by decide +kernel
theorem dX4_readStop_31 : decode cX4_readStop 31 = .ok (.ireturn, 1) := by decide +kernel
theorem dX4_refuse_0 : decode cX4_refuse 0 = .ok (.aload_n 0, 1) := by decide +kernel
theorem dX4_refuse_1 : decode cX4_refuse 1 = .ok (.iload_n 1, 1) := by decide +kernel
theorem dX4_refuse_2 : decode cX4_refuse 2 = .ok (.putfield 36, 3) := by decide +kernel
theorem dX4_refuse_5 : decode cX4_refuse 5 = .ok (.aload_n 0, 1) := by decide +kernel
theorem dX4_refuse_6 : decode cX4_refuse 6 = .ok (.aload_n 0, 1) := by decide +kernel
theorem dX4_refuse_7 : decode cX4_refuse 7 = .ok (.getfield 14, 3) := by decide +kernel
theorem dX4_refuse_10 : decode cX4_refuse 10 = .ok (.getfield 107, 3) := by decide +kernel
theorem dX4_refuse_13 : decode cX4_refuse 13 = .ok (.putfield 39, 3) := by decide +kernel
theorem dX4_refuse_16 : decode cX4_refuse 16 = .ok (.iconst 0, 1) := by decide +kernel
theorem dX4_refuse_17 : decode cX4_refuse 17 = .ok (.ireturn, 1) := by decide +kernel
theorem dX5_init_0 : decode cX5_init 0 = .ok (.aload_n 0, 1) := by decide +kernel
theorem dX5_init_1 : decode cX5_init 1 = .ok (.invokespecial 3, 3) := by decide +kernel
theorem dX5_init_4 : decode cX5_init 4 = .ok (.aload_n 0, 1) := by decide +kernel
theorem dX5_init_5 : decode cX5_init 5 = .ok (.aload_n 1, 1) := by decide +kernel
theorem dX5_init_6 : decode cX5_init 6 = .ok (.putfield 9, 3) := by decide +kernel
theorem dX5_init_9 : decode cX5_init 9 = .ok (.return_, 1) := by decide +kernel
theorem dX5_start_0 : decode cX5_start 0 = .ok (.aload_n 0, 1) := by decide +kernel
theorem dX5_start_1 : decode cX5_start 1 = .ok (.iconst 0, 1) := by decide +kernel
theorem dX5_start_2 : decode cX5_start 2 = .ok (.putfield 15, 3) := by decide +kernel
theorem dX5_start_5 : decode cX5_start 5 = .ok (.return_, 1) := by decide +kernel
theorem dX5_advance_0 : decode cX5_advance 0 = .ok (.aload_n 0, 1) := by decide +kernel
theorem dX5_advance_1 : decode cX5_advance 1 = .ok (.invokevirtual 19, 3) := by decide +kernel
theorem dX5_advance_4 : decode cX5_advance 4 = .ok (.aload_n 0, 1) := by decide +kernel
theorem dX5_advance_5 : decode cX5_advance 5 = .ok (.aload_n 0, 1) := by decide +kernel
theorem dX5_advance_6 : decode cX5_advance 6 = .ok (.getfield 15, 3) := by decide +kernel
theorem dX5_advance_9 : decode cX5_advance 9 = .ok (.putfield 22, 3) := by decide +kernel
theorem dX5_advance_12 : decode cX5_advance 12 = .ok (.aload_n 0, 1) := by decide +kernel
theorem dX5_advance_13 : decode cX5_advance 13 = .ok (.getfield 9, 3) := by decide +kernel
theorem dX5_advance_16 : decode cX5_advance 16 = .ok (.getfield 25, 3) := by decide +kernel
theorem dX5_advance_19 : decode cX5_advance 19 = .ok (.sipush 600, 3) := by decide +kernel
theorem dX5_advance_22 : decode cX5_advance 22 = .ok (.if_icmp .le 28, 3) := by decide +kernel
theorem dX5_advance_25 : decode cX5_advance 25 = .ok (.aload_n 0, 1) := by decide +kernel
theorem dX5_advance_26 : decode cX5_advance 26 = .ok (.getfield 15, 3) := by decide +kernel
theorem dX5_advance_29 : decode cX5_advance 29 = .ok (.sipush 600, 3) := by decide +kernel
theorem dX5_advance_32 : decode cX5_advance 32 = .ok (.if_icmp .lt 18, 3) := by decide +kernel
theorem dX5_advance_35 : decode cX5_advance 35 = .ok (.aload_n 0, 1) := by decide +kernel
theorem dX5_advance_36 : decode cX5_advance 36 = .ok (.sipush 600, 3) := by decide +kernel
theorem dX5_advance_39 : decode cX5_advance 39 = .ok (.putfield 22, 3) := by decide +kernel
theorem dX5_advance_42 : decode cX5_advance 42 = .ok (.aload_n 0, 1) := by decide +kernel
theorem dX5_advance_43 : decode cX5_advance 43 = .ok (.iconst 1, 1) := by decide +kernel
theorem dX5_advance_44 : decode cX5_advance 44 = .ok (.putfield 30, 3) := by decide +kernel
theorem dX5_advance_47 : decode cX5_advance 47 = .ok (.goto 64, 3) := by decide +kernel
theorem dX5_advance_50 : decode cX5_advance 50 = .ok (.aload_n 0, 1) := by decide +kernel
theorem dX5_advance_51 : decode cX5_advance 51 = .ok (.getfield 15, 3) := by decide +kernel
theorem dX5_advance_54 : decode cX5_advance 54 = .ok (.aload_n 0, 1) := by decide +kernel
theorem dX5_advance_55 : decode cX5_advance 55 = .ok (.getfield 9, 3) := by decide +kernel
theorem dX5_advance_58 : decode cX5_advance 58 = .ok (.getfield 25, 3) := by decide +kernel
theorem dX5_advance_61 : decode cX5_advance 61 = .ok (.if_icmp .lt 11, 3) := by decide +kernel
theorem dX5_advance_64 : decode cX5_advance 64 = .ok (.aload_n 0, 1) := by decide +kernel
theorem dX5_advance_65 : decode cX5_advance 65 = .ok (.iconst 0, 1) := by decide +kernel
theorem dX5_advance_66 : decode cX5_advance 66 = .ok (.putfield 30, 3) := by decide +kernel
theorem dX5_advance_69 : decode cX5_advance 69 = .ok (.goto 42, 3) := by decide +kernel
theorem dX5_advance_72 : decode cX5_advance 72 = .ok (.aload_n 0, 1) := by decide +kernel
theorem dX5_advance_73 : decode cX5_advance 73 = .ok (.getfield 9, 3) := by decide +kernel
theorem dX5_advance_76 : decode cX5_advance 76 = .ok (.getfield 33, 3) := by decide +kernel
theorem dX5_advance_79 : decode cX5_advance 79 = .ok (.aload_n 0, 1) := by decide +kernel
theorem dX5_advance_80 : decode cX5_advance 80 = .ok (.getfield 15, 3) := by decide +kernel
theorem dX5_advance_83 : decode cX5_advance 83 = .ok (.baload, 1) := by decide +kernel
theorem dX5_advance_84 : decode cX5_advance 84 = .ok (.bipush 59, 2) := by decide +kernel
theorem dX5_advance_86 : decode cX5_advance 86 = .ok (.if_icmp .ne 21, 3) := by decide +kernel
theorem dX5_advance_89 : decode cX5_advance 89 = .ok (.aload_n 0, 1) := by decide +kernel
theorem dX5_advance_90 : decode cX5_advance 90 = .ok (.iconst 3, 1) := by decide +kernel
theorem dX5_advance_91 : decode cX5_advance 91 = .ok (.putfield 30, 3) := by decide +kernel
theorem dX5_advance_94 : decode cX5_advance 94 = .ok (.aload_n 0, 1) := by decide +kernel
theorem dX5_advance_95 : decode cX5_advance 95 = .ok (.dup, 1) := by decide +kernel
theorem dX5_advance_96 : decode cX5_advance 96 = .ok (.getfield 15, 3) := by decide +kernel
theorem dX5_advance_99 : decode cX5_advance 99 = .ok (.iconst 1, 1) := by decide +kernel
theorem dX5_advance_100 : decode cX5_advance 100 = .ok (.iadd, 1) := by decide +kernel
theorem dX5_advance_101 : decode cX5_advance 101 = .ok (.putfield 15, 3) := by decide +kernel
theorem dX5_advance_104 : decode cX5_advance 104 = .ok (.goto 7, 3) := by decide +kernel
theorem dX5_advance_107 : decode cX5_advance 107 = .ok (.aload_n 0, 1) := by decide +kernel
theorem dX5_advance_108 : decode cX5_advance 108 = .ok (.invokevirtual 37, 3) := by decide +kernel
theorem dX5_advance_111 : decode cX5_advance 111 = .ok (.return_, 1) := by decide +kernel
theorem dX5_skipBlanks_0 : decode cX5_skipBlanks 0 = .ok (.aload_n 0, 1) := by decide +kernel
theorem dX5_skipBlanks_1 : decode cX5_skipBlanks 1 = .ok (.getfield 15, 3) := by decide +kernel
theorem dX5_skipBlanks_4 : decode cX5_skipBlanks 4 = .ok (.aload_n 0, 1) := by decide +kernel
theorem dX5_skipBlanks_5 : decode cX5_skipBlanks 5 = .ok (.getfield 9, 3) := by decide +kernel
theorem dX5_skipBlanks_8 : decode cX5_skipBlanks 8 = .ok (.getfield 25, 3) := by decide +kernel
theorem dX5_skipBlanks_11 : decode cX5_skipBlanks 11 = .ok (.if_icmp .ge 50, 3) := by decide +kernel
theorem dX5_skipBlanks_14 : decode cX5_skipBlanks 14 = .ok (.aload_n 0, 1) := by decide +kernel
theorem dX5_skipBlanks_15 : decode cX5_skipBlanks 15 = .ok (.getfield 9, 3) := by decide +kernel
theorem dX5_skipBlanks_18 : decode cX5_skipBlanks 18 = .ok (.getfield 33, 3) := by decide +kernel
theorem dX5_skipBlanks_21 : decode cX5_skipBlanks 21 = .ok (.aload_n 0, 1) := by decide +kernel
theorem dX5_skipBlanks_22 : decode cX5_skipBlanks 22 = .ok (.getfield 15, 3) := by decide +kernel
theorem dX5_skipBlanks_25 : decode cX5_skipBlanks 25 = .ok (.baload, 1) := by decide +kernel
theorem dX5_skipBlanks_26 : decode cX5_skipBlanks 26 = .ok (.bipush 32, 2) := by decide +kernel
theorem dX5_skipBlanks_28 : decode cX5_skipBlanks 28 = .ok (.if_icmp .eq 20, 3) := by decide +kernel
theorem dX5_skipBlanks_31 : decode cX5_skipBlanks 31 = .ok (.aload_n 0, 1) := by decide +kernel
theorem dX5_skipBlanks_32 : decode cX5_skipBlanks 32 = .ok (.getfield 9, 3) := by decide +kernel
theorem dX5_skipBlanks_35 : decode cX5_skipBlanks 35 = .ok (.getfield 33, 3) := by decide +kernel
theorem dX5_skipBlanks_38 : decode cX5_skipBlanks 38 = .ok (.aload_n 0, 1) := by decide +kernel
theorem dX5_skipBlanks_39 : decode cX5_skipBlanks 39 = .ok (.getfield 15, 3) := by decide +kernel
theorem dX5_skipBlanks_42 : decode cX5_skipBlanks 42 = .ok (.baload, 1) := by decide +kernel
theorem dX5_skipBlanks_43 : decode cX5_skipBlanks 43 = .ok (.bipush 10, 2) := by decide +kernel
theorem dX5_skipBlanks_45 : decode cX5_skipBlanks 45 = .ok (.if_icmp .ne 16, 3) := by decide +kernel
theorem dX5_skipBlanks_48 : decode cX5_skipBlanks 48 = .ok (.aload_n 0, 1) := by decide +kernel
theorem dX5_skipBlanks_49 : decode cX5_skipBlanks 49 = .ok (.dup, 1) := by decide +kernel
theorem dX5_skipBlanks_50 : decode cX5_skipBlanks 50 = .ok (.getfield 15, 3) := by decide +kernel
theorem dX5_skipBlanks_53 : decode cX5_skipBlanks 53 = .ok (.iconst 1, 1) := by decide +kernel
theorem dX5_skipBlanks_54 : decode cX5_skipBlanks 54 = .ok (.iadd, 1) := by decide +kernel
theorem dX5_skipBlanks_55 : decode cX5_skipBlanks 55 = .ok (.putfield 15, 3) := by decide +kernel
theorem dX5_skipBlanks_58 : decode cX5_skipBlanks 58 = .ok (.goto (-58), 3) := by decide +kernel
theorem dX5_skipBlanks_61 : decode cX5_skipBlanks 61 = .ok (.return_, 1) := by decide +kernel
theorem dX5_readRun_0 : decode cX5_readRun 0 = .ok (.iconst 0, 1) := by decide +kernel
theorem dX5_readRun_1 : decode cX5_readRun 1 = .ok (.istore_n 1, 1) := by decide +kernel
theorem dX5_readRun_2 : decode cX5_readRun 2 = .ok (.iconst 0, 1) := by decide +kernel
theorem dX5_readRun_3 : decode cX5_readRun 3 = .ok (.istore_n 2, 1) := by decide +kernel
theorem dX5_readRun_4 : decode cX5_readRun 4 = .ok (.aload_n 0, 1) := by decide +kernel
theorem dX5_readRun_5 : decode cX5_readRun 5 = .ok (.iconst 0, 1) := by decide +kernel
theorem dX5_readRun_6 : decode cX5_readRun 6 = .ok (.putfield 40, 3) := by decide +kernel
theorem dX5_readRun_9 : decode cX5_readRun 9 = .ok (.aload_n 0, 1) := by decide +kernel
theorem dX5_readRun_10 : decode cX5_readRun 10 = .ok (.getfield 15, 3) := by decide +kernel
theorem dX5_readRun_13 : decode cX5_readRun 13 = .ok (.aload_n 0, 1) := by decide +kernel
theorem dX5_readRun_14 : decode cX5_readRun 14 = .ok (.getfield 9, 3) := by decide +kernel
theorem dX5_readRun_17 : decode cX5_readRun 17 = .ok (.getfield 25, 3) := by decide +kernel
theorem dX5_readRun_20 : decode cX5_readRun 20 = .ok (.if_icmp .ge 118, 3) := by decide +kernel
theorem dX5_readRun_23 : decode cX5_readRun 23 = .ok (.aload_n 0, 1) := by decide +kernel
theorem dX5_readRun_24 : decode cX5_readRun 24 = .ok (.getfield 9, 3) := by decide +kernel
theorem dX5_readRun_27 : decode cX5_readRun 27 = .ok (.getfield 33, 3) := by decide +kernel
theorem dX5_readRun_30 : decode cX5_readRun 30 = .ok (.aload_n 0, 1) := by decide +kernel
theorem dX5_readRun_31 : decode cX5_readRun 31 = .ok (.getfield 15, 3) := by decide +kernel
theorem dX5_readRun_34 : decode cX5_readRun 34 = .ok (.baload, 1) := by decide +kernel
theorem dX5_readRun_35 : decode cX5_readRun 35 = .ok (.invokestatic 43, 3) := by decide +kernel
theorem dX5_readRun_38 : decode cX5_readRun 38 = .ok (.ifCond .ne 21, 3) := by decide +kernel
theorem dX5_readRun_41 : decode cX5_readRun 41 = .ok (.aload_n 0, 1) := by decide +kernel
theorem dX5_readRun_42 : decode cX5_readRun 42 = .ok (.getfield 9, 3) := by decide +kernel
theorem dX5_readRun_45 : decode cX5_readRun 45 = .ok (.getfield 33, 3) := by decide +kernel
theorem dX5_readRun_48 : decode cX5_readRun 48 = .ok (.aload_n 0, 1) := by decide +kernel
theorem dX5_readRun_49 : decode cX5_readRun 49 = .ok (.getfield 15, 3) := by decide +kernel
theorem dX5_readRun_52 : decode cX5_readRun 52 = .ok (.baload, 1) := by decide +kernel
theorem dX5_readRun_53 : decode cX5_readRun 53 = .ok (.invokestatic 47, 3) := by decide +kernel
theorem dX5_readRun_56 : decode cX5_readRun 56 = .ok (.ifCond .eq 82, 3) := by decide +kernel
theorem dX5_readRun_59 : decode cX5_readRun 59 = .ok (.aload_n 0, 1) := by decide +kernel
theorem dX5_readRun_60 : decode cX5_readRun 60 = .ok (.getfield 9, 3) := by decide +kernel
theorem dX5_readRun_63 : decode cX5_readRun 63 = .ok (.getfield 33, 3) := by decide +kernel
theorem dX5_readRun_66 : decode cX5_readRun 66 = .ok (.aload_n 0, 1) := by decide +kernel
theorem dX5_readRun_67 : decode cX5_readRun 67 = .ok (.getfield 15, 3) := by decide +kernel
theorem dX5_readRun_70 : decode cX5_readRun 70 = .ok (.baload, 1) := by decide +kernel
theorem dX5_readRun_71 : decode cX5_readRun 71 = .ok (.invokestatic 43, 3) := by decide +kernel
theorem dX5_readRun_74 : decode cX5_readRun 74 = .ok (.ifCond .eq 9, 3) := by decide +kernel
theorem dX5_readRun_77 : decode cX5_readRun 77 = .ok (.iinc 1 1, 3) := by decide +kernel
theorem dX5_readRun_80 : decode cX5_readRun 80 = .ok (.goto 45, 3) := by decide +kernel
theorem dX5_readRun_83 : decode cX5_readRun 83 = .ok (.iinc 2 1, 3) := by decide +kernel
theorem dX5_readRun_86 : decode cX5_readRun 86 = .ok (.aload_n 0, 1) := by decide +kernel
theorem dX5_readRun_87 : decode cX5_readRun 87 = .ok (.iload_n 2, 1) := by decide +kernel
theorem dX5_readRun_88 : decode cX5_readRun 88 = .ok (.iconst 2, 1) := by decide +kernel
theorem dX5_readRun_89 : decode cX5_readRun 89 = .ok (.if_icmp .gt 29, 3) := by decide +kernel
theorem dX5_readRun_92 : decode cX5_readRun 92 = .ok (.aload_n 0, 1) := by decide +kernel
theorem dX5_readRun_93 : decode cX5_readRun 93 = .ok (.getfield 40, 3) := by decide +kernel
theorem dX5_readRun_96 : decode cX5_readRun 96 = .ok (.bipush 10, 2) := by decide +kernel
theorem dX5_readRun_98 : decode cX5_readRun 98 = .ok (.imul, 1) := by decide +kernel
theorem dX5_readRun_99 : decode cX5_readRun 99 = .ok (.aload_n 0, 1) := by decide +kernel
theorem dX5_readRun_100 : decode cX5_readRun 100 = .ok (.getfield 9, 3) := by decide +kernel
theorem dX5_readRun_103 : decode cX5_readRun 103 = .ok (.getfield 33, 3) := by decide +kernel
theorem dX5_readRun_106 : decode cX5_readRun 106 = .ok (.aload_n 0, 1) := by decide +kernel
theorem dX5_readRun_107 : decode cX5_readRun 107 = .ok (.getfield 15, 3) := by decide +kernel
theorem dX5_readRun_110 : decode cX5_readRun 110 = .ok (.baload, 1) := by decide +kernel
theorem dX5_readRun_111 : decode cX5_readRun 111 = .ok (.bipush 48, 2) := by decide +kernel
theorem dX5_readRun_113 : decode cX5_readRun 113 = .ok (.isub, 1) := by decide +kernel
theorem dX5_readRun_114 : decode cX5_readRun 114 = .ok (.iadd, 1) := by decide +kernel
theorem dX5_readRun_115 : decode cX5_readRun 115 = .ok (.goto 7, 3) := by decide +kernel
theorem dX5_readRun_118 : decode cX5_readRun 118 = .ok (.aload_n 0, 1) := by decide +kernel
theorem dX5_readRun_119 : decode cX5_readRun 119 = .ok (.getfield 40, 3) := by decide +kernel
theorem dX5_readRun_122 : decode cX5_readRun 122 = .ok (.putfield 40, 3) := by decide +kernel
theorem dX5_readRun_125 : decode cX5_readRun 125 = .ok (.aload_n 0, 1) := by decide +kernel
theorem dX5_readRun_126 : decode cX5_readRun 126 = .ok (.dup, 1) := by decide +kernel
theorem dX5_readRun_127 : decode cX5_readRun 127 = .ok (.getfield 15, 3) := by decide +kernel
theorem dX5_readRun_130 : decode cX5_readRun 130 = .ok (.iconst 1, 1) := by decide +kernel
theorem dX5_readRun_131 : decode cX5_readRun 131 = .ok (.iadd, 1) := by decide +kernel
theorem dX5_readRun_132 : decode cX5_readRun 132 = .ok (.putfield 15, 3) := by decide +kernel
theorem dX5_readRun_135 : decode cX5_readRun 135 = .ok (.goto (-126), 3) := by decide +kernel
theorem dX5_readRun_138 : decode cX5_readRun 138 = .ok (.iload_n 2, 1) := by decide +kernel
theorem dX5_readRun_139 : decode cX5_readRun 139 = .ok (.ifCond .ne 14, 3) := by decide +kernel
theorem dX5_readRun_142 : decode cX5_readRun 142 = .ok (.aload_n 0, 1) := by decide +kernel
theorem dX5_readRun_143 : decode cX5_readRun 143 = .ok (.aload_n 0, 1) := by decide +kernel
theorem dX5_readRun_144 : decode cX5_readRun 144 = .ok (.invokevirtual 50, 3) := by decide +kernel
theorem dX5_readRun_147 : decode cX5_readRun 147 = .ok (.putfield 30, 3) := by decide +kernel
theorem dX5_readRun_150 : decode cX5_readRun 150 = .ok (.goto 21, 3) := by decide +kernel
theorem dX5_readRun_153 : decode cX5_readRun 153 = .ok (.aload_n 0, 1) := by decide +kernel
theorem dX5_readRun_154 : decode cX5_readRun 154 = .ok (.iload_n 1, 1) := by decide +kernel
theorem dX5_readRun_155 : decode cX5_readRun 155 = .ok (.ifCond .ne 12, 3) := by decide +kernel
theorem dX5_readRun_158 : decode cX5_readRun 158 = .ok (.iload_n 2, 1) := by decide +kernel
theorem dX5_readRun_159 : decode cX5_readRun 159 = .ok (.iconst 2, 1) := by decide +kernel
theorem dX5_readRun_160 : decode cX5_readRun 160 = .ok (.if_icmp .gt 7, 3) := by decide +kernel
theorem dX5_readRun_163 : decode cX5_readRun 163 = .ok (.iconst 2, 1) := by decide +kernel
theorem dX5_readRun_164 : decode cX5_readRun 164 = .ok (.goto 4, 3) := by decide +kernel
theorem dX5_readRun_167 : decode cX5_readRun 167 = .ok (.iconst 1, 1) := by decide +kernel
theorem dX5_readRun_168 : decode cX5_readRun 168 = .ok (.putfield 30, 3) := by decide +kernel
theorem dX5_readRun_171 : decode cX5_readRun 171 = .ok (.return_, 1) := by decide +kernel
theorem dX5_wordKind_0 : decode cX5_wordKind 0 = .ok (.aload_n 0, 1) := by decide +kernel
theorem dX5_wordKind_1 : decode cX5_wordKind 1 = .ok (.ldc 54, 2) := by decide +kernel
theorem dX5_wordKind_3 : decode cX5_wordKind 3 = .ok (.invokevirtual 56, 3) := by decide +kernel
theorem dX5_wordKind_6 : decode cX5_wordKind 6 = .ok (.ifCond .eq 5, 3) := by decide +kernel
theorem dX5_wordKind_9 : decode cX5_wordKind 9 = .ok (.iconst 4, 1) := by decide +kernel
theorem dX5_wordKind_10 : decode cX5_wordKind 10 = .ok (.ireturn, 1) := by decide +kernel
theorem dX5_wordKind_11 : decode cX5_wordKind 11 = .ok (.aload_n 0, 1) := by decide +kernel
theorem dX5_wordKind_12 : decode cX5_wordKind 12 = .ok (.ldc 60, 2) := by decide +kernel
theorem dX5_wordKind_14 : decode cX5_wordKind 14 = .ok (.invokevirtual 56, 3) := by decide +kernel
theorem dX5_wordKind_17 : decode cX5_wordKind 17 = .ok (.ifCond .eq 5, 3) := by decide +kernel
theorem dX5_wordKind_20 : decode cX5_wordKind 20 = .ok (.iconst 5, 1) := by decide +kernel
theorem dX5_wordKind_21 : decode cX5_wordKind 21 = .ok (.ireturn, 1) := by decide +kernel
theorem dX5_wordKind_22 : decode cX5_wordKind 22 = .ok (.aload_n 0, 1) := by decide +kernel
theorem dX5_wordKind_23 : decode cX5_wordKind 23 = .ok (.ldc 62, 2) := by decide +kernel
theorem dX5_wordKind_25 : decode cX5_wordKind 25 = .ok (.invokevirtual 56, 3) := by decide +kernel
theorem dX5_wordKind_28 : decode cX5_wordKind 28 = .ok (.ifCond .eq 6, 3) := by decide +kernel
theorem dX5_wordKind_31 : decode cX5_wordKind 31 = .ok (.bipush 6, 2) := by decide +kernel
theorem dX5_wordKind_33 : decode cX5_wordKind 33 = .ok (.ireturn, 1) := by decide +kernel
theorem dX5_wordKind_34 : decode cX5_wordKind 34 = .ok (.aload_n 0, 1) := by decide +kernel
theorem dX5_wordKind_35 : decode cX5_wordKind 35 = .ok (.ldc 64, 2) := by decide +kernel
theorem dX5_wordKind_37 : decode cX5_wordKind 37 = .ok (.invokevirtual 56, 3) := by decide +kernel
theorem dX5_wordKind_40 : decode cX5_wordKind 40 = .ok (.ifCond .eq 8, 3) := by decide +kernel
theorem dX5_wordKind_43 : decode cX5_wordKind 43 = .ok (.bipush 7, 2) := by decide +kernel
theorem dX5_wordKind_45 : decode cX5_wordKind 45 = .ok (.goto 4, 3) := by decide +kernel
theorem dX5_wordKind_48 : decode cX5_wordKind 48 = .ok (.iconst 1, 1) := by decide +kernel
theorem dX5_wordKind_49 : decode cX5_wordKind 49 = .ok (.ireturn, 1) := by decide +kernel
theorem dX5_spells_0 : decode cX5_spells 0 = .ok (.aload_n 0, 1) := by decide +kernel
theorem dX5_spells_1 : decode cX5_spells 1 = .ok (.getfield 15, 3) := by decide +kernel
theorem dX5_spells_4 : decode cX5_spells 4 = .ok (.aload_n 0, 1) := by decide +kernel
theorem dX5_spells_5 : decode cX5_spells 5 = .ok (.getfield 22, 3) := by decide +kernel
theorem dX5_spells_8 : decode cX5_spells 8 = .ok (.isub, 1) := by decide +kernel
theorem dX5_spells_9 : decode cX5_spells 9 = .ok (.aload_n 1, 1) := by decide +kernel
theorem dX5_spells_10 : decode cX5_spells 10 = .ok (.invokevirtual 66, 3) := by decide +kernel
theorem dX5_spells_13 : decode cX5_spells 13 = .ok (.if_icmp .eq 5, 3) := by decide +kernel
theorem dX5_spells_16 : decode cX5_spells 16 = .ok (.iconst 0, 1) := by decide +kernel
theorem dX5_spells_17 : decode cX5_spells 17 = .ok (.ireturn, 1) := by decide +kernel
theorem dX5_spells_18 : decode cX5_spells 18 = .ok (.iconst 0, 1) := by decide +kernel
theorem dX5_spells_19 : decode cX5_spells 19 = .ok (.istore_n 2, 1) := by decide +kernel
theorem dX5_spells_20 : decode cX5_spells 20 = .ok (.iload_n 2, 1) := by decide +kernel
theorem dX5_spells_21 : decode cX5_spells 21 = .ok (.aload_n 1, 1) := by decide +kernel
theorem dX5_spells_22 : decode cX5_spells 22 = .ok (.invokevirtual 66, 3) := by decide +kernel
theorem dX5_spells_25 : decode cX5_spells 25 = .ok (.if_icmp .ge 33, 3) := by decide +kernel
theorem dX5_spells_28 : decode cX5_spells 28 = .ok (.aload_n 0, 1) := by decide +kernel
theorem dX5_spells_29 : decode cX5_spells 29 = .ok (.getfield 9, 3) := by decide +kernel
theorem dX5_spells_32 : decode cX5_spells 32 = .ok (.getfield 33, 3) := by decide +kernel
theorem dX5_spells_35 : decode cX5_spells 35 = .ok (.aload_n 0, 1) := by decide +kernel
theorem dX5_spells_36 : decode cX5_spells 36 = .ok (.getfield 22, 3) := by decide +kernel
theorem dX5_spells_39 : decode cX5_spells 39 = .ok (.iload_n 2, 1) := by decide +kernel
theorem dX5_spells_40 : decode cX5_spells 40 = .ok (.iadd, 1) := by decide +kernel
theorem dX5_spells_41 : decode cX5_spells 41 = .ok (.baload, 1) := by decide +kernel
theorem dX5_spells_42 : decode cX5_spells 42 = .ok (.aload_n 1, 1) := by decide +kernel
theorem dX5_spells_43 : decode cX5_spells 43 = .ok (.iload_n 2, 1) := by decide +kernel
theorem dX5_spells_44 : decode cX5_spells 44 = .ok (.invokevirtual 71, 3) := by decide +kernel
theorem dX5_spells_47 : decode cX5_spells 47 = .ok (.if_icmp .eq 5, 3) := by decide +kernel
theorem dX5_spells_50 : decode cX5_spells 50 = .ok (.iconst 0, 1) := by decide +kernel
theorem dX5_spells_51 : decode cX5_spells 51 = .ok (.ireturn, 1) := by decide +kernel
theorem dX5_spells_52 : decode cX5_spells 52 = .ok (.iinc 2 1, 3) := by decide +kernel
theorem dX5_spells_55 : decode cX5_spells 55 = .ok (.goto (-35), 3) := by decide +kernel
theorem dX5_spells_58 : decode cX5_spells 58 = .ok (.iconst 1, 1) := by decide +kernel
theorem dX5_spells_59 : decode cX5_spells 59 = .ok (.ireturn, 1) := by decide +kernel
theorem dX5_isLetter_0 : decode cX5_isLetter 0 = .ok (.iload_n 0, 1) := by decide +kernel
theorem dX5_isLetter_1 : decode cX5_isLetter 1 = .ok (.bipush 97, 2) := by decide +kernel
theorem dX5_isLetter_3 : decode cX5_isLetter 3 = .ok (.if_icmp .lt 13, 3) := by decide +kernel
theorem dX5_isLetter_6 : decode cX5_isLetter 6 = .ok (.iload_n 0, 1) := by decide +kernel
theorem dX5_isLetter_7 : decode cX5_isLetter 7 = .ok (.bipush 122, 2) := by decide +kernel
theorem dX5_isLetter_9 : decode cX5_isLetter 9 = .ok (.if_icmp .gt 7, 3) := by decide +kernel
theorem dX5_isLetter_12 : decode cX5_isLetter 12 = .ok (.iconst 1, 1) := by decide +kernel
theorem dX5_isLetter_13 : decode cX5_isLetter 13 = .ok (.goto 4, 3) := by decide +kernel
theorem dX5_isLetter_16 : decode cX5_isLetter 16 = .ok (.iconst 0, 1) := by decide +kernel
theorem dX5_isLetter_17 : decode cX5_isLetter 17 = .ok (.ireturn, 1) := by decide +kernel
theorem dX5_isDigit_0 : decode cX5_isDigit 0 = .ok (.iload_n 0, 1) := by decide +kernel
theorem dX5_isDigit_1 : decode cX5_isDigit 1 = .ok (.bipush 48, 2) := by decide +kernel
theorem dX5_isDigit_3 : decode cX5_isDigit 3 = .ok (.if_icmp .lt 13, 3) := by decide +kernel
theorem dX5_isDigit_6 : decode cX5_isDigit 6 = .ok (.iload_n 0, 1) := by decide +kernel
theorem dX5_isDigit_7 : decode cX5_isDigit 7 = .ok (.bipush 57, 2) := by decide +kernel
theorem dX5_isDigit_9 : decode cX5_isDigit 9 = .ok (.if_icmp .gt 7, 3) := by decide +kernel
theorem dX5_isDigit_12 : decode cX5_isDigit 12 = .ok (.iconst 1, 1) := by decide +kernel
theorem dX5_isDigit_13 : decode cX5_isDigit 13 = .ok (.goto 4, 3) := by decide +kernel
theorem dX5_isDigit_16 : decode cX5_isDigit 16 = .ok (.iconst 0, 1) := by decide +kernel
theorem dX5_isDigit_17 : decode cX5_isDigit 17 = .ok (.ireturn, 1) := by decide +kernel
theorem dX6_init_0 : decode cX6_init 0 = .ok (.aload_n 0, 1) := by decide +kernel
theorem dX6_init_1 : decode cX6_init 1 = .ok (.invokespecial 1, 3) := by decide +kernel
theorem dX6_init_4 : decode cX6_init 4 = .ok (.aload_n 0, 1) := by decide +kernel
theorem dX6_init_5 : decode cX6_init 5 = .ok (.new 7, 3) := by decide +kernel
theorem dX6_init_8 : decode cX6_init 8 = .ok (.dup, 1) := by decide +kernel
theorem dX6_init_9 : decode cX6_init 9 = .ok (.invokespecial 9, 3) := by decide +kernel
theorem dX6_init_12 : decode cX6_init 12 = .ok (.putfield 10, 3) := by decide +kernel
theorem dX6_init_15 : decode cX6_init 15 = .ok (.aload_n 0, 1) := by decide +kernel
theorem dX6_init_16 : decode cX6_init 16 = .ok (.new 16, 3) := by decide +kernel
theorem dX6_init_19 : decode cX6_init 19 = .ok (.dup, 1) := by decide +kernel
theorem dX6_init_20 : decode cX6_init 20 = .ok (.invokespecial 18, 3) := by decide +kernel
theorem dX6_init_23 : decode cX6_init 23 = .ok (.putfield 19, 3) := by decide +kernel
theorem dX6_init_26 : decode cX6_init 26 = .ok (.aload_n 0, 1) := by decide +kernel
theorem dX6_init_27 : decode cX6_init 27 = .ok (.new 16, 3) := by decide +kernel
theorem dX6_init_30 : decode cX6_init 30 = .ok (.dup, 1) := by decide +kernel
theorem dX6_init_31 : decode cX6_init 31 = .ok (.invokespecial 18, 3) := by decide +kernel
theorem dX6_init_34 : decode cX6_init 34 = .ok (.putfield 23, 3) := by decide +kernel
theorem dX6_init_37 : decode cX6_init 37 = .ok (.aload_n 0, 1) := by decide +kernel
theorem dX6_init_38 : decode cX6_init 38 = .ok (.new 26, 3) := by decide +kernel
theorem dX6_init_41 : decode cX6_init 41 = .ok (.dup, 1) := by decide +kernel
theorem dX6_init_42 : decode cX6_init 42 = .ok (.aload_n 0, 1) := by decide +kernel
theorem dX6_init_43 : decode cX6_init 43 = .ok (.getfield 10, 3) := by decide +kernel
theorem dX6_init_46 : decode cX6_init 46 = .ok (.aload_n 0, 1) := by decide +kernel
theorem dX6_init_47 : decode cX6_init 47 = .ok (.getfield 23, 3) := by decide +kernel
theorem dX6_init_50 : decode cX6_init 50 = .ok (.invokespecial 28, 3) := by decide +kernel
theorem dX6_init_53 : decode cX6_init 53 = .ok (.putfield 31, 3) := by decide +kernel
theorem dX6_init_56 : decode cX6_init 56 = .ok (.aload_n 0, 1) := by decide +kernel
theorem dX6_init_57 : decode cX6_init 57 = .ok (.new 35, 3) := by decide +kernel
theorem dX6_init_60 : decode cX6_init 60 = .ok (.dup, 1) := by decide +kernel
theorem dX6_init_61 : decode cX6_init 61 = .ok (.aload_n 0, 1) := by decide +kernel
theorem dX6_init_62 : decode cX6_init 62 = .ok (.getfield 19, 3) := by decide +kernel
theorem dX6_init_65 : decode cX6_init 65 = .ok (.invokespecial 37, 3) := by decide +kernel
theorem dX6_init_68 : decode cX6_init 68 = .ok (.putfield 40, 3) := by decide +kernel
theorem dX6_init_71 : decode cX6_init 71 = .ok (.aload_n 0, 1) := by decide +kernel
theorem dX6_init_72 : decode cX6_init 72 = .ok (.new 44, 3) := by decide +kernel
theorem dX6_init_75 : decode cX6_init 75 = .ok (.dup, 1) := by decide +kernel
theorem dX6_init_76 : decode cX6_init 76 = .ok (.invokespecial 46, 3) := by decide +kernel
theorem dX6_init_79 : decode cX6_init 79 = .ok (.putfield 47, 3) := by decide +kernel
theorem dX6_init_82 : decode cX6_init 82 = .ok (.aload_n 0, 1) := by decide +kernel
theorem dX6_init_83 : decode cX6_init 83 = .ok (.getfield 19, 3) := by decide +kernel
theorem dX6_init_86 : decode cX6_init 86 = .ok (.invokevirtual 51, 3) := by decide +kernel
theorem dX6_init_89 : decode cX6_init 89 = .ok (.aload_n 0, 1) := by decide +kernel
theorem dX6_init_90 : decode cX6_init 90 = .ok (.getfield 19, 3) := by decide +kernel
theorem dX6_init_93 : decode cX6_init 93 = .ok (.iconst 1, 1) := by decide +kernel
theorem dX6_init_94 : decode cX6_init 94 = .ok (.putfield 54, 3) := by decide +kernel
theorem dX6_init_97 : decode cX6_init 97 = .ok (.return_, 1) := by decide +kernel
theorem dX6_feed_0 : decode cX6_feed 0 = .ok (.aload_n 0, 1) := by decide +kernel
theorem dX6_feed_1 : decode cX6_feed 1 = .ok (.getfield 10, 3) := by decide +kernel
theorem dX6_feed_4 : decode cX6_feed 4 = .ok (.getfield 58, 3) := by decide +kernel
theorem dX6_feed_7 : decode cX6_feed 7 = .ok (.bipush 20, 2) := by decide +kernel
theorem dX6_feed_9 : decode cX6_feed 9 = .ok (.iadd, 1) := by decide +kernel
theorem dX6_feed_10 : decode cX6_feed 10 = .ok (.sipush 640, 3) := by decide +kernel
theorem dX6_feed_13 : decode cX6_feed 13 = .ok (.if_icmp .le 5, 3) := by decide +kernel
theorem dX6_feed_16 : decode cX6_feed 16 = .ok (.iconst (-1), 1) := by decide +kernel
theorem dX6_feed_17 : decode cX6_feed 17 = .ok (.ireturn, 1) := by decide +kernel
theorem dX6_feed_18 : decode cX6_feed 18 = .ok (.aload_n 0, 1) := by decide +kernel
theorem dX6_feed_19 : decode cX6_feed 19 = .ok (.getfield 10, 3) := by decide +kernel
theorem dX6_feed_22 : decode cX6_feed 22 = .ok (.iload_n 1, 1) := by decide +kernel
theorem dX6_feed_23 : decode cX6_feed 23 = .ok (.invokevirtual 61, 3) := by decide +kernel
theorem dX6_feed_26 : decode cX6_feed 26 = .ok (.aload_n 0, 1) := by decide +kernel
theorem dX6_feed_27 : decode cX6_feed 27 = .ok (.getfield 10, 3) := by decide +kernel
theorem dX6_feed_30 : decode cX6_feed 30 = .ok (.iload_n 2, 1) := by decide +kernel
theorem dX6_feed_31 : decode cX6_feed 31 = .ok (.invokevirtual 61, 3) := by decide +kernel
theorem dX6_feed_34 : decode cX6_feed 34 = .ok (.aload_n 0, 1) := by decide +kernel
theorem dX6_feed_35 : decode cX6_feed 35 = .ok (.getfield 10, 3) := by decide +kernel
theorem dX6_feed_38 : decode cX6_feed 38 = .ok (.iload_n 3, 1) := by decide +kernel
theorem dX6_feed_39 : decode cX6_feed 39 = .ok (.invokevirtual 61, 3) := by decide +kernel
theorem dX6_feed_42 : decode cX6_feed 42 = .ok (.aload_n 0, 1) := by decide +kernel
theorem dX6_feed_43 : decode cX6_feed 43 = .ok (.getfield 10, 3) := by decide +kernel
theorem dX6_feed_46 : decode cX6_feed 46 = .ok (.iload 4, 2) := by decide +kernel
theorem dX6_feed_48 : decode cX6_feed 48 = .ok (.invokevirtual 61, 3) := by decide +kernel
theorem dX6_feed_51 : decode cX6_feed 51 = .ok (.aload_n 0, 1) := by decide +kernel
theorem dX6_feed_52 : decode cX6_feed 52 = .ok (.getfield 10, 3) := by decide +kernel
theorem dX6_feed_55 : decode cX6_feed 55 = .ok (.iload 5, 2) := by decide +kernel
theorem dX6_feed_57 : decode cX6_feed 57 = .ok (.invokevirtual 61, 3) := by decide +kernel
theorem dX6_feed_60 : decode cX6_feed 60 = .ok (.aload_n 0, 1) := by decide +kernel
theorem dX6_feed_61 : decode cX6_feed 61 = .ok (.getfield 10, 3) := by decide +kernel
theorem dX6_feed_64 : decode cX6_feed 64 = .ok (.getfield 58, 3) := by decide +kernel
theorem dX6_feed_67 : decode cX6_feed 67 = .ok (.ireturn, 1) := by decide +kernel
theorem dX6_end_0 : decode cX6_end 0 = .ok (.iload_n 1, 1) := by decide +kernel
theorem dX6_end_1 : decode cX6_end 1 = .ok (.ifCond .lt 14, 3) := by decide +kernel
theorem dX6_end_4 : decode cX6_end 4 = .ok (.iload_n 1, 1) := by decide +kernel
theorem dX6_end_5 : decode cX6_end 5 = .ok (.aload_n 0, 1) := by decide +kernel
theorem dX6_end_6 : decode cX6_end 6 = .ok (.getfield 10, 3) := by decide +kernel
theorem dX6_end_9 : decode cX6_end 9 = .ok (.getfield 58, 3) := by decide +kernel
theorem dX6_end_12 : decode cX6_end 12 = .ok (.if_icmp .le 5, 3) := by decide +kernel
theorem dX6_end_15 : decode cX6_end 15 = .ok (.iconst 0, 1) := by decide +kernel
theorem dX6_end_16 : decode cX6_end 16 = .ok (.ireturn, 1) := by decide +kernel
theorem dX6_end_17 : decode cX6_end 17 = .ok (.aload_n 0, 1) := by decide +kernel
theorem dX6_end_18 : decode cX6_end 18 = .ok (.getfield 10, 3) := by decide +kernel
theorem dX6_end_21 : decode cX6_end 21 = .ok (.iload_n 1, 1) := by decide +kernel
theorem dX6_end_22 : decode cX6_end 22 = .ok (.putfield 58, 3) := by decide +kernel
theorem dX6_end_25 : decode cX6_end 25 = .ok (.iconst 1, 1) := by decide +kernel
theorem dX6_end_26 : decode cX6_end 26 = .ok (.ireturn, 1) := by decide +kernel
theorem dX6_text_0 : decode cX6_text 0 = .ok (.aload_n 0, 1) := by decide +kernel
theorem dX6_text_1 : decode cX6_text 1 = .ok (.getfield 31, 3) := by decide +kernel
theorem dX6_text_4 : decode cX6_text 4 = .ok (.invokevirtual 65, 3) := by decide +kernel
theorem dX6_text_7 : decode cX6_text 7 = .ok (.istore_n 1, 1) := by decide +kernel
theorem dX6_text_8 : decode cX6_text 8 = .ok (.aload_n 0, 1) := by decide +kernel
theorem dX6_text_9 : decode cX6_text 9 = .ok (.getfield 10, 3) := by decide +kernel
theorem dX6_text_12 : decode cX6_text 12 = .ok (.iconst 0, 1) := by decide +kernel
theorem dX6_text_13 : decode cX6_text 13 = .ok (.putfield 58, 3) := by decide +kernel
theorem dX6_text_16 : decode cX6_text 16 = .ok (.iload_n 1, 1) := by decide +kernel
theorem dX6_text_17 : decode cX6_text 17 = .ok (.ifCond .ne 13, 3) := by decide +kernel
theorem dX6_text_20 : decode cX6_text 20 = .ok (.iconst (-1), 1) := by decide +kernel
theorem dX6_text_21 : decode cX6_text 21 = .ok (.aload_n 0, 1) := by decide +kernel
theorem dX6_text_22 : decode cX6_text 22 = .ok (.getfield 31, 3) := by decide +kernel
theorem dX6_text_25 : decode cX6_text 25 = .ok (.getfield 69, 3) := by decide +kernel
theorem dX6_text_28 : decode cX6_text 28 = .ok (.isub, 1) := by decide +kernel
theorem dX6_text_29 : decode cX6_text 29 = .ok (.ireturn, 1) := by decide +kernel
theorem dX6_text_30 : decode cX6_text 30 = .ok (.aload_n 0, 1) := by decide +kernel
theorem dX6_text_31 : decode cX6_text 31 = .ok (.getfield 19, 3) := by decide +kernel
theorem dX6_text_34 : decode cX6_text 34 = .ok (.aload_n 0, 1) := by decide +kernel
theorem dX6_text_35 : decode cX6_text 35 = .ok (.getfield 23, 3) := by decide +kernel
theorem dX6_text_38 : decode cX6_text 38 = .ok (.invokevirtual 72, 3) := by decide +kernel
theorem dX6_text_41 : decode cX6_text 41 = .ok (.aload_n 0, 1) := by decide +kernel
theorem dX6_text_42 : decode cX6_text 42 = .ok (.getfield 47, 3) := by decide +kernel
theorem dX6_text_45 : decode cX6_text 45 = .ok (.invokevirtual 75, 3) := by decide +kernel
theorem dX6_text_48 : decode cX6_text 48 = .ok (.aload_n 0, 1) := by decide +kernel
theorem dX6_text_49 : decode cX6_text 49 = .ok (.getfield 31, 3) := by decide +kernel
theorem dX6_text_52 : decode cX6_text 52 = .ok (.getfield 78, 3) := by decide +kernel
theorem dX6_text_55 : decode cX6_text 55 = .ok (.ireturn, 1) := by decide +kernel
theorem dX6_fault_0 : decode cX6_fault 0 = .ok (.aload_n 0, 1) := by decide +kernel
theorem dX6_fault_1 : decode cX6_fault 1 = .ok (.getfield 31, 3) := by decide +kernel
theorem dX6_fault_4 : decode cX6_fault 4 = .ok (.getfield 81, 3) := by decide +kernel
theorem dX6_fault_7 : decode cX6_fault 7 = .ok (.ireturn, 1) := by decide +kernel
theorem dX6_now_0 : decode cX6_now 0 = .ok (.iload_n 1, 1) := by decide +kernel
theorem dX6_now_1 : decode cX6_now 1 = .ok (.tableswitch 159 0 11 #[63, 71, 79, 87, 95, 103, 111, 119, 127, 135, 143, 151], 63) := by decide +kernel
theorem dX6_now_64 : decode cX6_now 64 = .ok (.aload_n 0, 1) := by decide +kernel
theorem dX6_now_65 : decode cX6_now 65 = .ok (.getfield 19, 3) := by decide +kernel
theorem dX6_now_68 : decode cX6_now 68 = .ok (.getfield 84, 3) := by decide +kernel
theorem dX6_now_71 : decode cX6_now 71 = .ok (.ireturn, 1) := by decide +kernel
theorem dX6_now_72 : decode cX6_now 72 = .ok (.aload_n 0, 1) := by decide +kernel
theorem dX6_now_73 : decode cX6_now 73 = .ok (.getfield 19, 3) := by decide +kernel
theorem dX6_now_76 : decode cX6_now 76 = .ok (.getfield 54, 3) := by decide +kernel
theorem dX6_now_79 : decode cX6_now 79 = .ok (.ireturn, 1) := by decide +kernel
theorem dX6_now_80 : decode cX6_now 80 = .ok (.aload_n 0, 1) := by decide +kernel
theorem dX6_now_81 : decode cX6_now 81 = .ok (.getfield 19, 3) := by decide +kernel
theorem dX6_now_84 : decode cX6_now 84 = .ok (.getfield 87, 3) := by decide +kernel
theorem dX6_now_87 : decode cX6_now 87 = .ok (.ireturn, 1) := by decide +kernel
theorem dX6_now_88 : decode cX6_now 88 = .ok (.aload_n 0, 1) := by decide +kernel
theorem dX6_now_89 : decode cX6_now 89 = .ok (.getfield 19, 3) := by decide +kernel
theorem dX6_now_92 : decode cX6_now 92 = .ok (.getfield 90, 3) := by decide +kernel
theorem dX6_now_95 : decode cX6_now 95 = .ok (.ireturn, 1) := by decide +kernel
theorem dX6_now_96 : decode cX6_now 96 = .ok (.aload_n 0, 1) := by decide +kernel
theorem dX6_now_97 : decode cX6_now 97 = .ok (.getfield 19, 3) := by decide +kernel
theorem dX6_now_100 : decode cX6_now 100 = .ok (.getfield 93, 3) := by decide +kernel
theorem dX6_now_103 : decode cX6_now 103 = .ok (.ireturn, 1) := by decide +kernel
theorem dX6_now_104 : decode cX6_now 104 = .ok (.aload_n 0, 1) := by decide +kernel
theorem dX6_now_105 : decode cX6_now 105 = .ok (.getfield 19, 3) := by decide +kernel
theorem dX6_now_108 : decode cX6_now 108 = .ok (.invokevirtual 96, 3) := by decide +kernel
theorem dX6_now_111 : decode cX6_now 111 = .ok (.ireturn, 1) := by decide +kernel
theorem dX6_now_112 : decode cX6_now 112 = .ok (.aload_n 0, 1) := by decide +kernel
theorem dX6_now_113 : decode cX6_now 113 = .ok (.getfield 19, 3) := by decide +kernel
theorem dX6_now_116 : decode cX6_now 116 = .ok (.invokevirtual 100, 3) := by decide +kernel
theorem dX6_now_119 : decode cX6_now 119 = .ok (.ireturn, 1) := by decide +kernel
theorem dX6_now_120 : decode cX6_now 120 = .ok (.aload_n 0, 1) := by decide +kernel
theorem dX6_now_121 : decode cX6_now 121 = .ok (.getfield 19, 3) := by decide +kernel
theorem dX6_now_124 : decode cX6_now 124 = .ok (.invokevirtual 103, 3) := by decide +kernel
theorem dX6_now_127 : decode cX6_now 127 = .ok (.ireturn, 1) := by decide +kernel
theorem dX6_now_128 : decode cX6_now 128 = .ok (.aload_n 0, 1) := by decide +kernel
theorem dX6_now_129 : decode cX6_now 129 = .ok (.getfield 19, 3) := by decide +kernel
theorem dX6_now_132 : decode cX6_now 132 = .ok (.getfield 106, 3) := by decide +kernel
theorem dX6_now_135 : decode cX6_now 135 = .ok (.ireturn, 1) := by decide +kernel
theorem dX6_now_136 : decode cX6_now 136 = .ok (.aload_n 0, 1) := by decide +kernel
theorem dX6_now_137 : decode cX6_now 137 = .ok (.getfield 19, 3) := by decide +kernel
theorem dX6_now_140 : decode cX6_now 140 = .ok (.getfield 109, 3) := by decide +kernel
theorem dX6_now_143 : decode cX6_now 143 = .ok (.ireturn, 1) := by decide +kernel
theorem dX6_now_144 : decode cX6_now 144 = .ok (.aload_n 0, 1) := by decide +kernel
theorem dX6_now_145 : decode cX6_now 145 = .ok (.getfield 47, 3) := by decide +kernel
theorem dX6_now_148 : decode cX6_now 148 = .ok (.getfield 112, 3) := by decide +kernel
theorem dX6_now_151 : decode cX6_now 151 = .ok (.ireturn, 1) := by decide +kernel
theorem dX6_now_152 : decode cX6_now 152 = .ok (.aload_n 0, 1) := by decide +kernel
theorem dX6_now_153 : decode cX6_now 153 = .ok (.getfield 10, 3) := by decide +kernel
theorem dX6_now_156 : decode cX6_now 156 = .ok (.getfield 58, 3) := by decide +kernel
theorem dX6_now_159 : decode cX6_now 159 = .ok (.ireturn, 1) := by decide +kernel
theorem dX6_now_160 : decode cX6_now 160 = .ok (.iconst (-1), 1) := by decide +kernel
theorem dX6_now_161 : decode cX6_now 161 = .ok (.ireturn, 1) := by decide +kernel
theorem dX6_lot_0 : decode cX6_lot 0 = .ok (.aload_n 0, 1) := by decide +kernel
theorem dX6_lot_1 : decode cX6_lot 1 = .ok (.getfield 19, 3) := by decide +kernel
theorem dX6_lot_4 : decode cX6_lot 4 = .ok (.iload_n 1, 1) := by decide +kernel
theorem dX6_lot_5 : decode cX6_lot 5 = .ok (.invokevirtual 115, 3) := by decide +kernel
theorem dX6_lot_8 : decode cX6_lot 8 = .ok (.ifCond .ne 13, 3) := by decide +kernel
theorem dX6_lot_11 : decode cX6_lot 11 = .ok (.new 119, 3) := by decide +kernel
theorem dX6_lot_14 : decode cX6_lot 14 = .ok (.dup, 1) := by decide +kernel
theorem dX6_lot_15 : decode cX6_lot 15 = .ok (.ldc 121, 2) := by decide +kernel
theorem dX6_lot_17 : decode cX6_lot 17 = .ok (.invokespecial 123, 3) := by decide +kernel
theorem dX6_lot_20 : decode cX6_lot 20 = .ok (.athrow, 1) := by decide +kernel
theorem dX6_lot_21 : decode cX6_lot 21 = .ok (.iload_n 2, 1) := by decide +kernel
theorem dX6_lot_22 : decode cX6_lot 22 = .ok (.tableswitch 83 0 4 #[34, 44, 54, 64, 74], 34) := by decide +kernel
theorem dX6_lot_56 : decode cX6_lot 56 = .ok (.aload_n 0, 1) := by decide +kernel
theorem dX6_lot_57 : decode cX6_lot 57 = .ok (.getfield 19, 3) := by decide +kernel
theorem dX6_lot_60 : decode cX6_lot 60 = .ok (.getfield 126, 3) := by decide +kernel
theorem dX6_lot_63 : decode cX6_lot 63 = .ok (.iload_n 1, 1) := by decide +kernel
theorem dX6_lot_64 : decode cX6_lot 64 = .ok (.iaload, 1) := by decide +kernel
theorem dX6_lot_65 : decode cX6_lot 65 = .ok (.ireturn, 1) := by decide +kernel
theorem dX6_lot_66 : decode cX6_lot 66 = .ok (.aload_n 0, 1) := by decide +kernel
theorem dX6_lot_67 : decode cX6_lot 67 = .ok (.getfield 19, 3) := by decide +kernel
theorem dX6_lot_70 : decode cX6_lot 70 = .ok (.getfield 130, 3) := by decide +kernel
theorem dX6_lot_73 : decode cX6_lot 73 = .ok (.iload_n 1, 1) := by decide +kernel
theorem dX6_lot_74 : decode cX6_lot 74 = .ok (.iaload, 1) := by decide +kernel
theorem dX6_lot_75 : decode cX6_lot 75 = .ok (.ireturn, 1) := by decide +kernel
theorem dX6_lot_76 : decode cX6_lot 76 = .ok (.aload_n 0, 1) := by decide +kernel
theorem dX6_lot_77 : decode cX6_lot 77 = .ok (.getfield 19, 3) := by decide +kernel
theorem dX6_lot_80 : decode cX6_lot 80 = .ok (.getfield 133, 3) := by decide +kernel
theorem dX6_lot_83 : decode cX6_lot 83 = .ok (.iload_n 1, 1) := by decide +kernel
theorem dX6_lot_84 : decode cX6_lot 84 = .ok (.iaload, 1) := by decide +kernel
theorem dX6_lot_85 : decode cX6_lot 85 = .ok (.ireturn, 1) := by decide +kernel
theorem dX6_lot_86 : decode cX6_lot 86 = .ok (.aload_n 0, 1) := by decide +kernel
theorem dX6_lot_87 : decode cX6_lot 87 = .ok (.getfield 19, 3) := by decide +kernel
theorem dX6_lot_90 : decode cX6_lot 90 = .ok (.getfield 136, 3) := by decide +kernel
theorem dX6_lot_93 : decode cX6_lot 93 = .ok (.iload_n 1, 1) := by decide +kernel
theorem dX6_lot_94 : decode cX6_lot 94 = .ok (.iaload, 1) := by decide +kernel
theorem dX6_lot_95 : decode cX6_lot 95 = .ok (.ireturn, 1) := by decide +kernel
theorem dX6_lot_96 : decode cX6_lot 96 = .ok (.aload_n 0, 1) := by decide +kernel
theorem dX6_lot_97 : decode cX6_lot 97 = .ok (.getfield 19, 3) := by decide +kernel
theorem dX6_lot_100 : decode cX6_lot 100 = .ok (.iload_n 1, 1) := by decide +kernel
theorem dX6_lot_101 : decode cX6_lot 101 = .ok (.invokevirtual 139, 3) := by decide +kernel
theorem dX6_lot_104 : decode cX6_lot 104 = .ok (.ireturn, 1) := by decide +kernel
theorem dX6_lot_105 : decode cX6_lot 105 = .ok (.new 119, 3) := by decide +kernel
theorem dX6_lot_108 : decode cX6_lot 108 = .ok (.dup, 1) := by decide +kernel
theorem dX6_lot_109 : decode cX6_lot 109 = .ok (.ldc 143, 2) := by decide +kernel
theorem dX6_lot_111 : decode cX6_lot 111 = .ok (.invokespecial 123, 3) := by decide +kernel
theorem dX6_lot_114 : decode cX6_lot 114 = .ok (.athrow, 1) := by decide +kernel
theorem dX6_order_0 : decode cX6_order 0 = .ok (.aload_n 0, 1) := by decide +kernel
theorem dX6_order_1 : decode cX6_order 1 = .ok (.getfield 19, 3) := by decide +kernel
theorem dX6_order_4 : decode cX6_order 4 = .ok (.iload_n 1, 1) := by decide +kernel
theorem dX6_order_5 : decode cX6_order 5 = .ok (.invokevirtual 145, 3) := by decide +kernel
theorem dX6_order_8 : decode cX6_order 8 = .ok (.ifCond .ne 13, 3) := by decide +kernel
theorem dX6_order_11 : decode cX6_order 11 = .ok (.new 119, 3) := by decide +kernel
theorem dX6_order_14 : decode cX6_order 14 = .ok (.dup, 1) := by decide +kernel
theorem dX6_order_15 : decode cX6_order 15 = .ok (.ldc 148, 2) := by decide +kernel
theorem dX6_order_17 : decode cX6_order 17 = .ok (.invokespecial 123, 3) := by decide +kernel
theorem dX6_order_20 : decode cX6_order 20 = .ok (.athrow, 1) := by decide +kernel
theorem dX6_order_21 : decode cX6_order 21 = .ok (.iload_n 2, 1) := by decide +kernel
theorem dX6_order_22 : decode cX6_order 22 = .ok (.tableswitch 111 0 6 #[42, 52, 62, 72, 82, 92, 101], 42) := by decide +kernel
theorem dX6_order_64 : decode cX6_order 64 = .ok (.aload_n 0, 1) := by decide +kernel
theorem dX6_order_65 : decode cX6_order 65 = .ok (.getfield 19, 3) := by decide +kernel
theorem dX6_order_68 : decode cX6_order 68 = .ok (.getfield 150, 3) := by decide +kernel
theorem dX6_order_71 : decode cX6_order 71 = .ok (.iload_n 1, 1) := by decide +kernel
theorem dX6_order_72 : decode cX6_order 72 = .ok (.iaload, 1) := by decide +kernel
theorem dX6_order_73 : decode cX6_order 73 = .ok (.ireturn, 1) := by decide +kernel
theorem dX6_order_74 : decode cX6_order 74 = .ok (.aload_n 0, 1) := by decide +kernel
theorem dX6_order_75 : decode cX6_order 75 = .ok (.getfield 19, 3) := by decide +kernel
theorem dX6_order_78 : decode cX6_order 78 = .ok (.getfield 153, 3) := by decide +kernel
theorem dX6_order_81 : decode cX6_order 81 = .ok (.iload_n 1, 1) := by decide +kernel
theorem dX6_order_82 : decode cX6_order 82 = .ok (.iaload, 1) := by decide +kernel
theorem dX6_order_83 : decode cX6_order 83 = .ok (.ireturn, 1) := by decide +kernel
theorem dX6_order_84 : decode cX6_order 84 = .ok (.aload_n 0, 1) := by decide +kernel
theorem dX6_order_85 : decode cX6_order 85 = .ok (.getfield 19, 3) := by decide +kernel
theorem dX6_order_88 : decode cX6_order 88 = .ok (.getfield 156, 3) := by decide +kernel
theorem dX6_order_91 : decode cX6_order 91 = .ok (.iload_n 1, 1) := by decide +kernel
theorem dX6_order_92 : decode cX6_order 92 = .ok (.iaload, 1) := by decide +kernel
theorem dX6_order_93 : decode cX6_order 93 = .ok (.ireturn, 1) := by decide +kernel
theorem dX6_order_94 : decode cX6_order 94 = .ok (.aload_n 0, 1) := by decide +kernel
theorem dX6_order_95 : decode cX6_order 95 = .ok (.getfield 19, 3) := by decide +kernel
theorem dX6_order_98 : decode cX6_order 98 = .ok (.getfield 159, 3) := by decide +kernel
theorem dX6_order_101 : decode cX6_order 101 = .ok (.iload_n 1, 1) := by decide +kernel
theorem dX6_order_102 : decode cX6_order 102 = .ok (.iaload, 1) := by decide +kernel
theorem dX6_order_103 : decode cX6_order 103 = .ok (.ireturn, 1) := by decide +kernel
theorem dX6_order_104 : decode cX6_order 104 = .ok (.aload_n 0, 1) := by decide +kernel
theorem dX6_order_105 : decode cX6_order 105 = .ok (.getfield 19, 3) := by decide +kernel
theorem dX6_order_108 : decode cX6_order 108 = .ok (.getfield 162, 3) := by decide +kernel
theorem dX6_order_111 : decode cX6_order 111 = .ok (.iload_n 1, 1) := by decide +kernel
theorem dX6_order_112 : decode cX6_order 112 = .ok (.iaload, 1) := by decide +kernel
theorem dX6_order_113 : decode cX6_order 113 = .ok (.ireturn, 1) := by decide +kernel
theorem dX6_order_114 : decode cX6_order 114 = .ok (.aload_n 0, 1) := by decide +kernel
theorem dX6_order_115 : decode cX6_order 115 = .ok (.getfield 19, 3) := by decide +kernel
theorem dX6_order_118 : decode cX6_order 118 = .ok (.iload_n 1, 1) := by decide +kernel
theorem dX6_order_119 : decode cX6_order 119 = .ok (.invokevirtual 165, 3) := by decide +kernel
theorem dX6_order_122 : decode cX6_order 122 = .ok (.ireturn, 1) := by decide +kernel
theorem dX6_order_123 : decode cX6_order 123 = .ok (.aload_n 0, 1) := by decide +kernel
theorem dX6_order_124 : decode cX6_order 124 = .ok (.getfield 19, 3) := by decide +kernel
theorem dX6_order_127 : decode cX6_order 127 = .ok (.getfield 168, 3) := by decide +kernel
theorem dX6_order_130 : decode cX6_order 130 = .ok (.iload_n 1, 1) := by decide +kernel
theorem dX6_order_131 : decode cX6_order 131 = .ok (.iaload, 1) := by decide +kernel
theorem dX6_order_132 : decode cX6_order 132 = .ok (.ireturn, 1) := by decide +kernel
theorem dX6_order_133 : decode cX6_order 133 = .ok (.new 119, 3) := by decide +kernel
theorem dX6_order_136 : decode cX6_order 136 = .ok (.dup, 1) := by decide +kernel
theorem dX6_order_137 : decode cX6_order 137 = .ok (.ldc 171, 2) := by decide +kernel
theorem dX6_order_139 : decode cX6_order 139 = .ok (.invokespecial 123, 3) := by decide +kernel
theorem dX6_order_142 : decode cX6_order 142 = .ok (.athrow, 1) := by decide +kernel
theorem dX6_reserved_0 : decode cX6_reserved 0 = .ok (.aload_n 0, 1) := by decide +kernel
theorem dX6_reserved_1 : decode cX6_reserved 1 = .ok (.getfield 19, 3) := by decide +kernel
theorem dX6_reserved_4 : decode cX6_reserved 4 = .ok (.iload_n 1, 1) := by decide +kernel
theorem dX6_reserved_5 : decode cX6_reserved 5 = .ok (.invokevirtual 115, 3) := by decide +kernel
theorem dX6_reserved_8 : decode cX6_reserved 8 = .ok (.ifCond .eq 14, 3) := by decide +kernel
theorem dX6_reserved_11 : decode cX6_reserved 11 = .ok (.aload_n 0, 1) := by decide +kernel
theorem dX6_reserved_12 : decode cX6_reserved 12 = .ok (.getfield 19, 3) := by decide +kernel
theorem dX6_reserved_15 : decode cX6_reserved 15 = .ok (.iload_n 2, 1) := by decide +kernel
theorem dX6_reserved_16 : decode cX6_reserved 16 = .ok (.invokevirtual 145, 3) := by decide +kernel
theorem dX6_reserved_19 : decode cX6_reserved 19 = .ok (.ifCond .ne 5, 3) := by decide +kernel
theorem dX6_reserved_22 : decode cX6_reserved 22 = .ok (.iconst (-1), 1) := by decide +kernel
theorem dX6_reserved_23 : decode cX6_reserved 23 = .ok (.ireturn, 1) := by decide +kernel
theorem dX6_reserved_24 : decode cX6_reserved 24 = .ok (.aload_n 0, 1) := by decide +kernel
theorem dX6_reserved_25 : decode cX6_reserved 25 = .ok (.getfield 19, 3) := by decide +kernel
theorem dX6_reserved_28 : decode cX6_reserved 28 = .ok (.iload_n 1, 1) := by decide +kernel
theorem dX6_reserved_29 : decode cX6_reserved 29 = .ok (.iload_n 2, 1) := by decide +kernel
theorem dX6_reserved_30 : decode cX6_reserved 30 = .ok (.invokevirtual 173, 3) := by decide +kernel
theorem dX6_reserved_33 : decode cX6_reserved 33 = .ok (.ireturn, 1) := by decide +kernel
theorem dX6_customer_0 : decode cX6_customer 0 = .ok (.aload_n 0, 1) := by decide +kernel
theorem dX6_customer_1 : decode cX6_customer 1 = .ok (.getfield 19, 3) := by decide +kernel
theorem dX6_customer_4 : decode cX6_customer 4 = .ok (.iload_n 1, 1) := by decide +kernel
theorem dX6_customer_5 : decode cX6_customer 5 = .ok (.invokevirtual 177, 3) := by decide +kernel
theorem dX6_customer_8 : decode cX6_customer 8 = .ok (.ifCond .ne 5, 3) := by decide +kernel
theorem dX6_customer_11 : decode cX6_customer 11 = .ok (.iconst (-1), 1) := by decide +kernel
theorem dX6_customer_12 : decode cX6_customer 12 = .ok (.ireturn, 1) := by decide +kernel
theorem dX6_customer_13 : decode cX6_customer 13 = .ok (.iload_n 2, 1) := by decide +kernel
theorem dX6_customer_14 : decode cX6_customer 14 = .ok (.iconst (-1), 1) := by decide +kernel
theorem dX6_customer_15 : decode cX6_customer 15 = .ok (.if_icmp .ne 13, 3) := by decide +kernel
theorem dX6_customer_18 : decode cX6_customer 18 = .ok (.aload_n 0, 1) := by decide +kernel
theorem dX6_customer_19 : decode cX6_customer 19 = .ok (.getfield 19, 3) := by decide +kernel
theorem dX6_customer_22 : decode cX6_customer 22 = .ok (.getfield 180, 3) := by decide +kernel
theorem dX6_customer_25 : decode cX6_customer 25 = .ok (.iload_n 1, 1) := by decide +kernel
theorem dX6_customer_26 : decode cX6_customer 26 = .ok (.iaload, 1) := by decide +kernel
theorem dX6_customer_27 : decode cX6_customer 27 = .ok (.ireturn, 1) := by decide +kernel
theorem dX6_customer_28 : decode cX6_customer 28 = .ok (.aload_n 0, 1) := by decide +kernel
theorem dX6_customer_29 : decode cX6_customer 29 = .ok (.getfield 19, 3) := by decide +kernel
theorem dX6_customer_32 : decode cX6_customer 32 = .ok (.iload_n 2, 1) := by decide +kernel
theorem dX6_customer_33 : decode cX6_customer 33 = .ok (.invokevirtual 183, 3) := by decide +kernel
theorem dX6_customer_36 : decode cX6_customer 36 = .ok (.ifCond .eq 15, 3) := by decide +kernel
theorem dX6_customer_39 : decode cX6_customer 39 = .ok (.aload_n 0, 1) := by decide +kernel
theorem dX6_customer_40 : decode cX6_customer 40 = .ok (.getfield 19, 3) := by decide +kernel
theorem dX6_customer_43 : decode cX6_customer 43 = .ok (.iload_n 1, 1) := by decide +kernel
theorem dX6_customer_44 : decode cX6_customer 44 = .ok (.iload_n 2, 1) := by decide +kernel
theorem dX6_customer_45 : decode cX6_customer 45 = .ok (.invokevirtual 186, 3) := by decide +kernel
theorem dX6_customer_48 : decode cX6_customer 48 = .ok (.goto 4, 3) := by decide +kernel
theorem dX6_customer_51 : decode cX6_customer 51 = .ok (.iconst (-1), 1) := by decide +kernel
theorem dX6_customer_52 : decode cX6_customer 52 = .ok (.ireturn, 1) := by decide +kernel
theorem dX6_suits_0 : decode cX6_suits 0 = .ok (.aload_n 0, 1) := by decide +kernel
theorem dX6_suits_1 : decode cX6_suits 1 = .ok (.getfield 19, 3) := by decide +kernel
theorem dX6_suits_4 : decode cX6_suits 4 = .ok (.iload_n 1, 1) := by decide +kernel
theorem dX6_suits_5 : decode cX6_suits 5 = .ok (.invokevirtual 115, 3) := by decide +kernel
theorem dX6_suits_8 : decode cX6_suits 8 = .ok (.ifCond .eq 30, 3) := by decide +kernel
theorem dX6_suits_11 : decode cX6_suits 11 = .ok (.aload_n 0, 1) := by decide +kernel
theorem dX6_suits_12 : decode cX6_suits 12 = .ok (.getfield 19, 3) := by decide +kernel
theorem dX6_suits_15 : decode cX6_suits 15 = .ok (.iload_n 2, 1) := by decide +kernel
theorem dX6_suits_16 : decode cX6_suits 16 = .ok (.invokevirtual 189, 3) := by decide +kernel
theorem dX6_suits_19 : decode cX6_suits 19 = .ok (.ifCond .eq 19, 3) := by decide +kernel
theorem dX6_suits_22 : decode cX6_suits 22 = .ok (.aload_n 0, 1) := by decide +kernel
theorem dX6_suits_23 : decode cX6_suits 23 = .ok (.getfield 19, 3) := by decide +kernel
theorem dX6_suits_26 : decode cX6_suits 26 = .ok (.iload_n 1, 1) := by decide +kernel
theorem dX6_suits_27 : decode cX6_suits 27 = .ok (.iload_n 2, 1) := by decide +kernel
theorem dX6_suits_28 : decode cX6_suits 28 = .ok (.invokevirtual 192, 3) := by decide +kernel
theorem dX6_suits_31 : decode cX6_suits 31 = .ok (.ifCond .eq 7, 3) := by decide +kernel
theorem dX6_suits_34 : decode cX6_suits 34 = .ok (.iconst 1, 1) := by decide +kernel
theorem dX6_suits_35 : decode cX6_suits 35 = .ok (.goto 4, 3) := by decide +kernel
theorem dX6_suits_38 : decode cX6_suits 38 = .ok (.iconst 0, 1) := by decide +kernel
theorem dX6_suits_39 : decode cX6_suits 39 = .ok (.ireturn, 1) := by decide +kernel
theorem dX6_plan_0 : decode cX6_plan 0 = .ok (.iload_n 1, 1) := by decide +kernel
theorem dX6_plan_1 : decode cX6_plan 1 = .ok (.iconst (-1), 1) := by decide +kernel
theorem dX6_plan_2 : decode cX6_plan 2 = .ok (.if_icmp .ne 7, 3) := by decide +kernel
theorem dX6_plan_5 : decode cX6_plan 5 = .ok (.iconst 1, 1) := by decide +kernel
theorem dX6_plan_6 : decode cX6_plan 6 = .ok (.goto 4, 3) := by decide +kernel
theorem dX6_plan_9 : decode cX6_plan 9 = .ok (.iconst 0, 1) := by decide +kernel
theorem dX6_plan_10 : decode cX6_plan 10 = .ok (.istore_n 3, 1) := by decide +kernel
theorem dX6_plan_11 : decode cX6_plan 11 = .ok (.aload_n 0, 1) := by decide +kernel
theorem dX6_plan_12 : decode cX6_plan 12 = .ok (.getfield 19, 3) := by decide +kernel
theorem dX6_plan_15 : decode cX6_plan 15 = .ok (.iload_n 2, 1) := by decide +kernel
theorem dX6_plan_16 : decode cX6_plan 16 = .ok (.invokevirtual 189, 3) := by decide +kernel
theorem dX6_plan_19 : decode cX6_plan 19 = .ok (.ifCond .eq 18, 3) := by decide +kernel
theorem dX6_plan_22 : decode cX6_plan 22 = .ok (.iload_n 3, 1) := by decide +kernel
theorem dX6_plan_23 : decode cX6_plan 23 = .ok (.ifCond .ne 16, 3) := by decide +kernel
theorem dX6_plan_26 : decode cX6_plan 26 = .ok (.aload_n 0, 1) := by decide +kernel
theorem dX6_plan_27 : decode cX6_plan 27 = .ok (.getfield 19, 3) := by decide +kernel
theorem dX6_plan_30 : decode cX6_plan 30 = .ok (.iload_n 1, 1) := by decide +kernel
theorem dX6_plan_31 : decode cX6_plan 31 = .ok (.invokevirtual 115, 3) := by decide +kernel
theorem dX6_plan_34 : decode cX6_plan 34 = .ok (.ifCond .ne 5, 3) := by decide +kernel
theorem dX6_plan_37 : decode cX6_plan 37 = .ok (.iconst (-1), 1) := by decide +kernel
theorem dX6_plan_38 : decode cX6_plan 38 = .ok (.ireturn, 1) := by decide +kernel
theorem dX6_plan_39 : decode cX6_plan 39 = .ok (.aload_n 0, 1) := by decide +kernel
theorem dX6_plan_40 : decode cX6_plan 40 = .ok (.getfield 40, 3) := by decide +kernel
theorem dX6_plan_43 : decode cX6_plan 43 = .ok (.aload_n 0, 1) := by decide +kernel
theorem dX6_plan_44 : decode cX6_plan 44 = .ok (.getfield 19, 3) := by decide +kernel
theorem dX6_plan_47 : decode cX6_plan 47 = .ok (.aload_n 0, 1) := by decide +kernel
theorem dX6_plan_48 : decode cX6_plan 48 = .ok (.getfield 19, 3) := by decide +kernel
theorem dX6_plan_51 : decode cX6_plan 51 = .ok (.getfield 153, 3) := by decide +kernel
theorem dX6_plan_54 : decode cX6_plan 54 = .ok (.iload_n 2, 1) := by decide +kernel
theorem dX6_plan_55 : decode cX6_plan 55 = .ok (.iaload, 1) := by decide +kernel
theorem dX6_plan_56 : decode cX6_plan 56 = .ok (.invokevirtual 196, 3) := by decide +kernel
theorem dX6_plan_59 : decode cX6_plan 59 = .ok (.iload_n 3, 1) := by decide +kernel
theorem dX6_plan_60 : decode cX6_plan 60 = .ok (.ifCond .eq 14, 3) := by decide +kernel
theorem dX6_plan_63 : decode cX6_plan 63 = .ok (.aload_n 0, 1) := by decide +kernel
theorem dX6_plan_64 : decode cX6_plan 64 = .ok (.getfield 40, 3) := by decide +kernel
theorem dX6_plan_67 : decode cX6_plan 67 = .ok (.iload_n 2, 1) := by decide +kernel
theorem dX6_plan_68 : decode cX6_plan 68 = .ok (.invokevirtual 200, 3) := by decide +kernel
theorem dX6_plan_71 : decode cX6_plan 71 = .ok (.goto 12, 3) := by decide +kernel
theorem dX6_plan_74 : decode cX6_plan 74 = .ok (.aload_n 0, 1) := by decide +kernel
theorem dX6_plan_75 : decode cX6_plan 75 = .ok (.getfield 40, 3) := by decide +kernel
theorem dX6_plan_78 : decode cX6_plan 78 = .ok (.iload_n 1, 1) := by decide +kernel
theorem dX6_plan_79 : decode cX6_plan 79 = .ok (.iload_n 2, 1) := by decide +kernel
theorem dX6_plan_80 : decode cX6_plan 80 = .ok (.invokevirtual 203, 3) := by decide +kernel
theorem dX6_plan_83 : decode cX6_plan 83 = .ok (.ireturn, 1) := by decide +kernel
theorem dX6_waste_0 : decode cX6_waste 0 = .ok (.aload_n 0, 1) := by decide +kernel
theorem dX6_waste_1 : decode cX6_waste 1 = .ok (.getfield 19, 3) := by decide +kernel
theorem dX6_waste_4 : decode cX6_waste 4 = .ok (.iload_n 1, 1) := by decide +kernel
theorem dX6_waste_5 : decode cX6_waste 5 = .ok (.invokevirtual 183, 3) := by decide +kernel
theorem dX6_waste_8 : decode cX6_waste 8 = .ok (.ifCond .eq 14, 3) := by decide +kernel
theorem dX6_waste_11 : decode cX6_waste 11 = .ok (.aload_n 0, 1) := by decide +kernel
theorem dX6_waste_12 : decode cX6_waste 12 = .ok (.getfield 19, 3) := by decide +kernel
theorem dX6_waste_15 : decode cX6_waste 15 = .ok (.iload_n 2, 1) := by decide +kernel
theorem dX6_waste_16 : decode cX6_waste 16 = .ok (.invokevirtual 206, 3) := by decide +kernel
theorem dX6_waste_19 : decode cX6_waste 19 = .ok (.ifCond .ne 5, 3) := by decide +kernel
theorem dX6_waste_22 : decode cX6_waste 22 = .ok (.iconst (-1), 1) := by decide +kernel
theorem dX6_waste_23 : decode cX6_waste 23 = .ok (.ireturn, 1) := by decide +kernel
theorem dX6_waste_24 : decode cX6_waste 24 = .ok (.iconst 0, 1) := by decide +kernel
theorem dX6_waste_25 : decode cX6_waste 25 = .ok (.istore_n 3, 1) := by decide +kernel
theorem dX6_waste_26 : decode cX6_waste 26 = .ok (.iconst 0, 1) := by decide +kernel
theorem dX6_waste_27 : decode cX6_waste 27 = .ok (.istore 4, 2) := by decide +kernel
theorem dX6_waste_29 : decode cX6_waste 29 = .ok (.iload 4, 2) := by decide +kernel
theorem dX6_waste_31 : decode cX6_waste 31 = .ok (.aload_n 0, 1) := by decide +kernel
theorem dX6_waste_32 : decode cX6_waste 32 = .ok (.getfield 19, 3) := by decide +kernel
theorem dX6_waste_35 : decode cX6_waste 35 = .ok (.getfield 90, 3) := by decide +kernel
theorem dX6_waste_38 : decode cX6_waste 38 = .ok (.if_icmp .ge 60, 3) := by decide +kernel
theorem dX6_waste_41 : decode cX6_waste 41 = .ok (.aload_n 0, 1) := by decide +kernel
theorem dX6_waste_42 : decode cX6_waste 42 = .ok (.getfield 19, 3) := by decide +kernel
theorem dX6_waste_45 : decode cX6_waste 45 = .ok (.getfield 126, 3) := by decide +kernel
theorem dX6_waste_48 : decode cX6_waste 48 = .ok (.iload 4, 2) := by decide +kernel
theorem dX6_waste_50 : decode cX6_waste 50 = .ok (.iaload, 1) := by decide +kernel
theorem dX6_waste_51 : decode cX6_waste 51 = .ok (.iload_n 1, 1) := by decide +kernel
theorem dX6_waste_52 : decode cX6_waste 52 = .ok (.if_icmp .ne 40, 3) := by decide +kernel
theorem dX6_waste_55 : decode cX6_waste 55 = .ok (.aload_n 0, 1) := by decide +kernel
theorem dX6_waste_56 : decode cX6_waste 56 = .ok (.getfield 19, 3) := by decide +kernel
theorem dX6_waste_59 : decode cX6_waste 59 = .ok (.getfield 130, 3) := by decide +kernel
theorem dX6_waste_62 : decode cX6_waste 62 = .ok (.iload 4, 2) := by decide +kernel
theorem dX6_waste_64 : decode cX6_waste 64 = .ok (.iaload, 1) := by decide +kernel
theorem dX6_waste_65 : decode cX6_waste 65 = .ok (.iload_n 2, 1) := by decide +kernel
theorem dX6_waste_66 : decode cX6_waste 66 = .ok (.if_icmp .gt 26, 3) := by decide +kernel
theorem dX6_waste_69 : decode cX6_waste 69 = .ok (.iload_n 3, 1) := by decide +kernel
theorem dX6_waste_70 : decode cX6_waste 70 = .ok (.aload_n 0, 1) := by decide +kernel
theorem dX6_waste_71 : decode cX6_waste 71 = .ok (.getfield 19, 3) := by decide +kernel
theorem dX6_waste_74 : decode cX6_waste 74 = .ok (.getfield 133, 3) := by decide +kernel
theorem dX6_waste_77 : decode cX6_waste 77 = .ok (.iload 4, 2) := by decide +kernel
theorem dX6_waste_79 : decode cX6_waste 79 = .ok (.iaload, 1) := by decide +kernel
theorem dX6_waste_80 : decode cX6_waste 80 = .ok (.aload_n 0, 1) := by decide +kernel
theorem dX6_waste_81 : decode cX6_waste 81 = .ok (.getfield 19, 3) := by decide +kernel
theorem dX6_waste_84 : decode cX6_waste 84 = .ok (.iload 4, 2) := by decide +kernel
theorem dX6_waste_86 : decode cX6_waste 86 = .ok (.invokevirtual 139, 3) := by decide +kernel
theorem dX6_waste_89 : decode cX6_waste 89 = .ok (.isub, 1) := by decide +kernel
theorem dX6_waste_90 : decode cX6_waste 90 = .ok (.iadd, 1) := by decide +kernel
theorem dX6_waste_91 : decode cX6_waste 91 = .ok (.istore_n 3, 1) := by decide +kernel
theorem dX6_waste_92 : decode cX6_waste 92 = .ok (.iinc 4 1, 3) := by decide +kernel
theorem dX6_waste_95 : decode cX6_waste 95 = .ok (.goto (-66), 3) := by decide +kernel
theorem dX6_waste_98 : decode cX6_waste 98 = .ok (.iload_n 3, 1) := by decide +kernel
theorem dX6_waste_99 : decode cX6_waste 99 = .ok (.ireturn, 1) := by decide +kernel
theorem dX6_least_0 : decode cX6_least 0 = .ok (.aload_n 0, 1) := by decide +kernel
theorem dX6_least_1 : decode cX6_least 1 = .ok (.getfield 19, 3) := by decide +kernel
theorem dX6_least_4 : decode cX6_least 4 = .ok (.iload_n 1, 1) := by decide +kernel
theorem dX6_least_5 : decode cX6_least 5 = .ok (.invokevirtual 183, 3) := by decide +kernel
theorem dX6_least_8 : decode cX6_least 8 = .ok (.ifCond .eq 14, 3) := by decide +kernel
theorem dX6_least_11 : decode cX6_least 11 = .ok (.aload_n 0, 1) := by decide +kernel
theorem dX6_least_12 : decode cX6_least 12 = .ok (.getfield 19, 3) := by decide +kernel
theorem dX6_least_15 : decode cX6_least 15 = .ok (.iload_n 2, 1) := by decide +kernel
theorem dX6_least_16 : decode cX6_least 16 = .ok (.invokevirtual 206, 3) := by decide +kernel
theorem dX6_least_19 : decode cX6_least 19 = .ok (.ifCond .ne 5, 3) := by decide +kernel
theorem dX6_least_22 : decode cX6_least 22 = .ok (.iconst (-1), 1) := by decide +kernel
theorem dX6_least_23 : decode cX6_least 23 = .ok (.ireturn, 1) := by decide +kernel
theorem dX6_least_24 : decode cX6_least 24 = .ok (.aload_n 0, 1) := by decide +kernel
theorem dX6_least_25 : decode cX6_least 25 = .ok (.getfield 40, 3) := by decide +kernel
theorem dX6_least_28 : decode cX6_least 28 = .ok (.aload_n 0, 1) := by decide +kernel
theorem dX6_least_29 : decode cX6_least 29 = .ok (.getfield 19, 3) := by decide +kernel
theorem dX6_least_32 : decode cX6_least 32 = .ok (.iload_n 1, 1) := by decide +kernel
theorem dX6_least_33 : decode cX6_least 33 = .ok (.invokevirtual 196, 3) := by decide +kernel
theorem dX6_least_36 : decode cX6_least 36 = .ok (.aload_n 0, 1) := by decide +kernel
theorem dX6_least_37 : decode cX6_least 37 = .ok (.getfield 40, 3) := by decide +kernel
theorem dX6_least_40 : decode cX6_least 40 = .ok (.iload_n 2, 1) := by decide +kernel
theorem dX6_least_41 : decode cX6_least 41 = .ok (.invokevirtual 209, 3) := by decide +kernel
theorem dX6_least_44 : decode cX6_least 44 = .ok (.ireturn, 1) := by decide +kernel
theorem dX6_would_0 : decode cX6_would 0 = .ok (.aload_n 0, 1) := by decide +kernel
theorem dX6_would_1 : decode cX6_would 1 = .ok (.iload_n 1, 1) := by decide +kernel
theorem dX6_would_2 : decode cX6_would 2 = .ok (.iload_n 2, 1) := by decide +kernel
theorem dX6_would_3 : decode cX6_would 3 = .ok (.iload_n 3, 1) := by decide +kernel
theorem dX6_would_4 : decode cX6_would 4 = .ok (.iload 4, 2) := by decide +kernel
theorem dX6_would_6 : decode cX6_would 6 = .ok (.invokevirtual 212, 3) := by decide +kernel
theorem dX6_would_9 : decode cX6_would 9 = .ok (.ifCond .ne 5, 3) := by decide +kernel
theorem dX6_would_12 : decode cX6_would 12 = .ok (.iconst (-1), 1) := by decide +kernel
theorem dX6_would_13 : decode cX6_would 13 = .ok (.ireturn, 1) := by decide +kernel
theorem dX6_would_14 : decode cX6_would 14 = .ok (.aload_n 0, 1) := by decide +kernel
theorem dX6_would_15 : decode cX6_would 15 = .ok (.getfield 19, 3) := by decide +kernel
theorem dX6_would_18 : decode cX6_would 18 = .ok (.iload_n 1, 1) := by decide +kernel
theorem dX6_would_19 : decode cX6_would 19 = .ok (.iload_n 2, 1) := by decide +kernel
theorem dX6_would_20 : decode cX6_would 20 = .ok (.invokevirtual 216, 3) := by decide +kernel
theorem dX6_would_23 : decode cX6_would 23 = .ok (.iconst (-1), 1) := by decide +kernel
theorem dX6_would_24 : decode cX6_would 24 = .ok (.if_icmp .eq 6, 3) := by decide +kernel
theorem dX6_would_27 : decode cX6_would 27 = .ok (.bipush (-2), 2) := by decide +kernel
theorem dX6_would_29 : decode cX6_would 29 = .ok (.ireturn, 1) := by decide +kernel
theorem dX6_would_30 : decode cX6_would 30 = .ok (.aload_n 0, 1) := by decide +kernel
theorem dX6_would_31 : decode cX6_would 31 = .ok (.getfield 23, 3) := by decide +kernel
theorem dX6_would_34 : decode cX6_would 34 = .ok (.aload_n 0, 1) := by decide +kernel
theorem dX6_would_35 : decode cX6_would 35 = .ok (.getfield 19, 3) := by decide +kernel
theorem dX6_would_38 : decode cX6_would 38 = .ok (.invokevirtual 72, 3) := by decide +kernel
theorem dX6_would_41 : decode cX6_would 41 = .ok (.aload_n 0, 1) := by decide +kernel
theorem dX6_would_42 : decode cX6_would 42 = .ok (.getfield 23, 3) := by decide +kernel
theorem dX6_would_45 : decode cX6_would 45 = .ok (.iload_n 1, 1) := by decide +kernel
theorem dX6_would_46 : decode cX6_would 46 = .ok (.iload_n 2, 1) := by decide +kernel
theorem dX6_would_47 : decode cX6_would 47 = .ok (.iload_n 3, 1) := by decide +kernel
theorem dX6_would_48 : decode cX6_would 48 = .ok (.iload 4, 2) := by decide +kernel
theorem dX6_would_50 : decode cX6_would 50 = .ok (.invokevirtual 219, 3) := by decide +kernel
theorem dX6_would_53 : decode cX6_would 53 = .ok (.istore 5, 2) := by decide +kernel
theorem dX6_would_55 : decode cX6_would 55 = .ok (.aload_n 0, 1) := by decide +kernel
theorem dX6_would_56 : decode cX6_would 56 = .ok (.getfield 40, 3) := by decide +kernel
theorem dX6_would_59 : decode cX6_would 59 = .ok (.aload_n 0, 1) := by decide +kernel
theorem dX6_would_60 : decode cX6_would 60 = .ok (.getfield 23, 3) := by decide +kernel
theorem dX6_would_63 : decode cX6_would 63 = .ok (.iload_n 2, 1) := by decide +kernel
theorem dX6_would_64 : decode cX6_would 64 = .ok (.invokevirtual 196, 3) := by decide +kernel
theorem dX6_would_67 : decode cX6_would 67 = .ok (.aload_n 0, 1) := by decide +kernel
theorem dX6_would_68 : decode cX6_would 68 = .ok (.getfield 40, 3) := by decide +kernel
theorem dX6_would_71 : decode cX6_would 71 = .ok (.iload 5, 2) := by decide +kernel
theorem dX6_would_73 : decode cX6_would 73 = .ok (.invokevirtual 200, 3) := by decide +kernel
theorem dX6_would_76 : decode cX6_would 76 = .ok (.ireturn, 1) := by decide +kernel
theorem dX6_slack_0 : decode cX6_slack 0 = .ok (.aload_n 0, 1) := by decide +kernel
theorem dX6_slack_1 : decode cX6_slack 1 = .ok (.getfield 19, 3) := by decide +kernel
theorem dX6_slack_4 : decode cX6_slack 4 = .ok (.iload_n 1, 1) := by decide +kernel
theorem dX6_slack_5 : decode cX6_slack 5 = .ok (.invokevirtual 189, 3) := by decide +kernel
theorem dX6_slack_8 : decode cX6_slack 8 = .ok (.ifCond .ne 5, 3) := by decide +kernel
theorem dX6_slack_11 : decode cX6_slack 11 = .ok (.iconst (-1), 1) := by decide +kernel
theorem dX6_slack_12 : decode cX6_slack 12 = .ok (.ireturn, 1) := by decide +kernel
theorem dX6_slack_13 : decode cX6_slack 13 = .ok (.aload_n 0, 1) := by decide +kernel
theorem dX6_slack_14 : decode cX6_slack 14 = .ok (.getfield 23, 3) := by decide +kernel
theorem dX6_slack_17 : decode cX6_slack 17 = .ok (.aload_n 0, 1) := by decide +kernel
theorem dX6_slack_18 : decode cX6_slack 18 = .ok (.getfield 19, 3) := by decide +kernel
theorem dX6_slack_21 : decode cX6_slack 21 = .ok (.invokevirtual 72, 3) := by decide +kernel
theorem dX6_slack_24 : decode cX6_slack 24 = .ok (.aload_n 0, 1) := by decide +kernel
theorem dX6_slack_25 : decode cX6_slack 25 = .ok (.getfield 19, 3) := by decide +kernel
theorem dX6_slack_28 : decode cX6_slack 28 = .ok (.getfield 180, 3) := by decide +kernel
theorem dX6_slack_31 : decode cX6_slack 31 = .ok (.aload_n 0, 1) := by decide +kernel
theorem dX6_slack_32 : decode cX6_slack 32 = .ok (.getfield 19, 3) := by decide +kernel
theorem dX6_slack_35 : decode cX6_slack 35 = .ok (.getfield 150, 3) := by decide +kernel
theorem dX6_slack_38 : decode cX6_slack 38 = .ok (.iload_n 1, 1) := by decide +kernel
theorem dX6_slack_39 : decode cX6_slack 39 = .ok (.iaload, 1) := by decide +kernel
theorem dX6_slack_40 : decode cX6_slack 40 = .ok (.iaload, 1) := by decide +kernel
theorem dX6_slack_41 : decode cX6_slack 41 = .ok (.istore_n 2, 1) := by decide +kernel
theorem dX6_slack_42 : decode cX6_slack 42 = .ok (.aload_n 0, 1) := by decide +kernel
theorem dX6_slack_43 : decode cX6_slack 43 = .ok (.iload_n 2, 1) := by decide +kernel
theorem dX6_slack_44 : decode cX6_slack 44 = .ok (.iload_n 1, 1) := by decide +kernel
theorem dX6_slack_45 : decode cX6_slack 45 = .ok (.invokevirtual 223, 3) := by decide +kernel
theorem dX6_slack_48 : decode cX6_slack 48 = .ok (.ifCond .ne 6, 3) := by decide +kernel
theorem dX6_slack_51 : decode cX6_slack 51 = .ok (.bipush (-2), 2) := by decide +kernel
theorem dX6_slack_53 : decode cX6_slack 53 = .ok (.ireturn, 1) := by decide +kernel
theorem dX6_slack_54 : decode cX6_slack 54 = .ok (.iconst 0, 1) := by decide +kernel
theorem dX6_slack_55 : decode cX6_slack 55 = .ok (.istore_n 3, 1) := by decide +kernel
theorem dX6_slack_56 : decode cX6_slack 56 = .ok (.iconst 0, 1) := by decide +kernel
theorem dX6_slack_57 : decode cX6_slack 57 = .ok (.istore 4, 2) := by decide +kernel
theorem dX6_slack_59 : decode cX6_slack 59 = .ok (.iload 4, 2) := by decide +kernel
theorem dX6_slack_61 : decode cX6_slack 61 = .ok (.bipush 99, 2) := by decide +kernel
theorem dX6_slack_63 : decode cX6_slack 63 = .ok (.if_icmp .gt 42, 3) := by decide +kernel
theorem dX6_slack_66 : decode cX6_slack 66 = .ok (.iload_n 3, 1) := by decide +kernel
theorem dX6_slack_67 : decode cX6_slack 67 = .ok (.iload_n 2, 1) := by decide +kernel
theorem dX6_slack_68 : decode cX6_slack 68 = .ok (.if_icmp .ge 37, 3) := by decide +kernel
theorem dX6_slack_71 : decode cX6_slack 71 = .ok (.iload_n 3, 1) := by decide +kernel
theorem dX6_slack_72 : decode cX6_slack 72 = .ok (.iload_n 2, 1) := by decide +kernel
theorem dX6_slack_73 : decode cX6_slack 73 = .ok (.iadd, 1) := by decide +kernel
theorem dX6_slack_74 : decode cX6_slack 74 = .ok (.iconst 2, 1) := by decide +kernel
theorem dX6_slack_75 : decode cX6_slack 75 = .ok (.idiv, 1) := by decide +kernel
theorem dX6_slack_76 : decode cX6_slack 76 = .ok (.istore 5, 2) := by decide +kernel
theorem dX6_slack_78 : decode cX6_slack 78 = .ok (.aload_n 0, 1) := by decide +kernel
theorem dX6_slack_79 : decode cX6_slack 79 = .ok (.iload 5, 2) := by decide +kernel
theorem dX6_slack_81 : decode cX6_slack 81 = .ok (.iload_n 1, 1) := by decide +kernel
theorem dX6_slack_82 : decode cX6_slack 82 = .ok (.invokevirtual 223, 3) := by decide +kernel
theorem dX6_slack_85 : decode cX6_slack 85 = .ok (.ifCond .eq 9, 3) := by decide +kernel
theorem dX6_slack_88 : decode cX6_slack 88 = .ok (.iload 5, 2) := by decide +kernel
theorem dX6_slack_90 : decode cX6_slack 90 = .ok (.istore_n 2, 1) := by decide +kernel
theorem dX6_slack_91 : decode cX6_slack 91 = .ok (.goto 8, 3) := by decide +kernel
theorem dX6_slack_94 : decode cX6_slack 94 = .ok (.iload 5, 2) := by decide +kernel
theorem dX6_slack_96 : decode cX6_slack 96 = .ok (.iconst 1, 1) := by decide +kernel
theorem dX6_slack_97 : decode cX6_slack 97 = .ok (.iadd, 1) := by decide +kernel
theorem dX6_slack_98 : decode cX6_slack 98 = .ok (.istore_n 3, 1) := by decide +kernel
theorem dX6_slack_99 : decode cX6_slack 99 = .ok (.iinc 4 1, 3) := by decide +kernel
theorem dX6_slack_102 : decode cX6_slack 102 = .ok (.goto (-43), 3) := by decide +kernel
theorem dX6_slack_105 : decode cX6_slack 105 = .ok (.iload_n 2, 1) := by decide +kernel
theorem dX6_slack_106 : decode cX6_slack 106 = .ok (.ireturn, 1) := by decide +kernel
theorem dX6_comes_0 : decode cX6_comes 0 = .ok (.aload_n 0, 1) := by decide +kernel
theorem dX6_comes_1 : decode cX6_comes 1 = .ok (.getfield 19, 3) := by decide +kernel
theorem dX6_comes_4 : decode cX6_comes 4 = .ok (.iload_n 1, 1) := by decide +kernel
theorem dX6_comes_5 : decode cX6_comes 5 = .ok (.invokevirtual 183, 3) := by decide +kernel
theorem dX6_comes_8 : decode cX6_comes 8 = .ok (.ifCond .eq 29, 3) := by decide +kernel
theorem dX6_comes_11 : decode cX6_comes 11 = .ok (.aload_n 0, 1) := by decide +kernel
theorem dX6_comes_12 : decode cX6_comes 12 = .ok (.getfield 19, 3) := by decide +kernel
theorem dX6_comes_15 : decode cX6_comes 15 = .ok (.iload_n 2, 1) := by decide +kernel
theorem dX6_comes_16 : decode cX6_comes 16 = .ok (.invokevirtual 206, 3) := by decide +kernel
theorem dX6_comes_19 : decode cX6_comes 19 = .ok (.ifCond .eq 18, 3) := by decide +kernel
theorem dX6_comes_22 : decode cX6_comes 22 = .ok (.iload_n 3, 1) := by decide +kernel
theorem dX6_comes_23 : decode cX6_comes 23 = .ok (.invokestatic 226, 3) := by decide +kernel
theorem dX6_comes_26 : decode cX6_comes 26 = .ok (.ifCond .eq 11, 3) := by decide +kernel
theorem dX6_comes_29 : decode cX6_comes 29 = .ok (.iload 4, 2) := by decide +kernel
theorem dX6_comes_31 : decode cX6_comes 31 = .ok (.invokestatic 229, 3) := by decide +kernel
theorem dX6_comes_34 : decode cX6_comes 34 = .ok (.ifCond .ne 5, 3) := by decide +kernel
theorem dX6_comes_37 : decode cX6_comes 37 = .ok (.iconst (-1), 1) := by decide +kernel
theorem dX6_comes_38 : decode cX6_comes 38 = .ok (.ireturn, 1) := by decide +kernel
theorem dX6_comes_39 : decode cX6_comes 39 = .ok (.aload_n 0, 1) := by decide +kernel
theorem dX6_comes_40 : decode cX6_comes 40 = .ok (.getfield 19, 3) := by decide +kernel
theorem dX6_comes_43 : decode cX6_comes 43 = .ok (.getfield 90, 3) := by decide +kernel
theorem dX6_comes_46 : decode cX6_comes 46 = .ok (.bipush 24, 2) := by decide +kernel
theorem dX6_comes_48 : decode cX6_comes 48 = .ok (.if_icmp .lt 6, 3) := by decide +kernel
theorem dX6_comes_51 : decode cX6_comes 51 = .ok (.bipush (-2), 2) := by decide +kernel
theorem dX6_comes_53 : decode cX6_comes 53 = .ok (.ireturn, 1) := by decide +kernel
theorem dX6_comes_54 : decode cX6_comes 54 = .ok (.aload_n 0, 1) := by decide +kernel
theorem dX6_comes_55 : decode cX6_comes 55 = .ok (.getfield 47, 3) := by decide +kernel
theorem dX6_comes_58 : decode cX6_comes 58 = .ok (.aload_n 0, 1) := by decide +kernel
theorem dX6_comes_59 : decode cX6_comes 59 = .ok (.getfield 19, 3) := by decide +kernel
theorem dX6_comes_62 : decode cX6_comes 62 = .ok (.invokevirtual 232, 3) := by decide +kernel
theorem dX6_comes_65 : decode cX6_comes 65 = .ok (.aload_n 0, 1) := by decide +kernel
theorem dX6_comes_66 : decode cX6_comes 66 = .ok (.getfield 19, 3) := by decide +kernel
theorem dX6_comes_69 : decode cX6_comes 69 = .ok (.iload_n 1, 1) := by decide +kernel
theorem dX6_comes_70 : decode cX6_comes 70 = .ok (.iload_n 2, 1) := by decide +kernel
theorem dX6_comes_71 : decode cX6_comes 71 = .ok (.iload_n 3, 1) := by decide +kernel
theorem dX6_comes_72 : decode cX6_comes 72 = .ok (.iload 4, 2) := by decide +kernel
theorem dX6_comes_74 : decode cX6_comes 74 = .ok (.invokevirtual 235, 3) := by decide +kernel
theorem dX6_comes_77 : decode cX6_comes 77 = .ok (.ireturn, 1) := by decide +kernel
theorem dX6_asks_0 : decode cX6_asks 0 = .ok (.aload_n 0, 1) := by decide +kernel
theorem dX6_asks_1 : decode cX6_asks 1 = .ok (.iload_n 1, 1) := by decide +kernel
theorem dX6_asks_2 : decode cX6_asks 2 = .ok (.iload_n 2, 1) := by decide +kernel
theorem dX6_asks_3 : decode cX6_asks 3 = .ok (.iload_n 3, 1) := by decide +kernel
theorem dX6_asks_4 : decode cX6_asks 4 = .ok (.iload 4, 2) := by decide +kernel
theorem dX6_asks_6 : decode cX6_asks 6 = .ok (.invokevirtual 212, 3) := by decide +kernel
theorem dX6_asks_9 : decode cX6_asks 9 = .ok (.ifCond .ne 5, 3) := by decide +kernel
theorem dX6_asks_12 : decode cX6_asks 12 = .ok (.iconst (-1), 1) := by decide +kernel
theorem dX6_asks_13 : decode cX6_asks 13 = .ok (.ireturn, 1) := by decide +kernel
theorem dX6_asks_14 : decode cX6_asks 14 = .ok (.aload_n 0, 1) := by decide +kernel
theorem dX6_asks_15 : decode cX6_asks 15 = .ok (.getfield 19, 3) := by decide +kernel
theorem dX6_asks_18 : decode cX6_asks 18 = .ok (.iload_n 1, 1) := by decide +kernel
theorem dX6_asks_19 : decode cX6_asks 19 = .ok (.iload_n 2, 1) := by decide +kernel
theorem dX6_asks_20 : decode cX6_asks 20 = .ok (.invokevirtual 216, 3) := by decide +kernel
theorem dX6_asks_23 : decode cX6_asks 23 = .ok (.iconst (-1), 1) := by decide +kernel
theorem dX6_asks_24 : decode cX6_asks 24 = .ok (.if_icmp .eq 6, 3) := by decide +kernel
theorem dX6_asks_27 : decode cX6_asks 27 = .ok (.bipush (-2), 2) := by decide +kernel
theorem dX6_asks_29 : decode cX6_asks 29 = .ok (.ireturn, 1) := by decide +kernel
theorem dX6_asks_30 : decode cX6_asks 30 = .ok (.aload_n 0, 1) := by decide +kernel
theorem dX6_asks_31 : decode cX6_asks 31 = .ok (.getfield 19, 3) := by decide +kernel
theorem dX6_asks_34 : decode cX6_asks 34 = .ok (.getfield 93, 3) := by decide +kernel
theorem dX6_asks_37 : decode cX6_asks 37 = .ok (.bipush 40, 2) := by decide +kernel
theorem dX6_asks_39 : decode cX6_asks 39 = .ok (.if_icmp .lt 6, 3) := by decide +kernel
theorem dX6_asks_42 : decode cX6_asks 42 = .ok (.bipush (-3), 2) := by decide +kernel
theorem dX6_asks_44 : decode cX6_asks 44 = .ok (.ireturn, 1) := by decide +kernel
theorem dX6_asks_45 : decode cX6_asks 45 = .ok (.aload_n 0, 1) := by decide +kernel
theorem dX6_asks_46 : decode cX6_asks 46 = .ok (.getfield 47, 3) := by decide +kernel
theorem dX6_asks_49 : decode cX6_asks 49 = .ok (.aload_n 0, 1) := by decide +kernel
theorem dX6_asks_50 : decode cX6_asks 50 = .ok (.getfield 19, 3) := by decide +kernel
theorem dX6_asks_53 : decode cX6_asks 53 = .ok (.invokevirtual 232, 3) := by decide +kernel
theorem dX6_asks_56 : decode cX6_asks 56 = .ok (.aload_n 0, 1) := by decide +kernel
theorem dX6_asks_57 : decode cX6_asks 57 = .ok (.getfield 19, 3) := by decide +kernel
theorem dX6_asks_60 : decode cX6_asks 60 = .ok (.iload_n 1, 1) := by decide +kernel
theorem dX6_asks_61 : decode cX6_asks 61 = .ok (.iload_n 2, 1) := by decide +kernel
theorem dX6_asks_62 : decode cX6_asks 62 = .ok (.iload_n 3, 1) := by decide +kernel
theorem dX6_asks_63 : decode cX6_asks 63 = .ok (.iload 4, 2) := by decide +kernel
theorem dX6_asks_65 : decode cX6_asks 65 = .ok (.invokevirtual 219, 3) := by decide +kernel
theorem dX6_asks_68 : decode cX6_asks 68 = .ok (.ireturn, 1) := by decide +kernel
theorem dX6_reserve_0 : decode cX6_reserve 0 = .ok (.aload_n 0, 1) := by decide +kernel
theorem dX6_reserve_1 : decode cX6_reserve 1 = .ok (.getfield 19, 3) := by decide +kernel
theorem dX6_reserve_4 : decode cX6_reserve 4 = .ok (.iload_n 1, 1) := by decide +kernel
theorem dX6_reserve_5 : decode cX6_reserve 5 = .ok (.invokevirtual 183, 3) := by decide +kernel
theorem dX6_reserve_8 : decode cX6_reserve 8 = .ok (.ifCond .ne 5, 3) := by decide +kernel
theorem dX6_reserve_11 : decode cX6_reserve 11 = .ok (.iconst (-1), 1) := by decide +kernel
theorem dX6_reserve_12 : decode cX6_reserve 12 = .ok (.ireturn, 1) := by decide +kernel
theorem dX6_reserve_13 : decode cX6_reserve 13 = .ok (.aload_n 0, 1) := by decide +kernel
theorem dX6_reserve_14 : decode cX6_reserve 14 = .ok (.getfield 47, 3) := by decide +kernel
theorem dX6_reserve_17 : decode cX6_reserve 17 = .ok (.aload_n 0, 1) := by decide +kernel
theorem dX6_reserve_18 : decode cX6_reserve 18 = .ok (.getfield 19, 3) := by decide +kernel
theorem dX6_reserve_21 : decode cX6_reserve 21 = .ok (.invokevirtual 232, 3) := by decide +kernel
theorem dX6_reserve_24 : decode cX6_reserve 24 = .ok (.aload_n 0, 1) := by decide +kernel
theorem dX6_reserve_25 : decode cX6_reserve 25 = .ok (.getfield 40, 3) := by decide +kernel
theorem dX6_reserve_28 : decode cX6_reserve 28 = .ok (.aload_n 0, 1) := by decide +kernel
theorem dX6_reserve_29 : decode cX6_reserve 29 = .ok (.getfield 19, 3) := by decide +kernel
theorem dX6_reserve_32 : decode cX6_reserve 32 = .ok (.iload_n 1, 1) := by decide +kernel
theorem dX6_reserve_33 : decode cX6_reserve 33 = .ok (.invokevirtual 196, 3) := by decide +kernel
theorem dX6_reserve_36 : decode cX6_reserve 36 = .ok (.aload_n 0, 1) := by decide +kernel
theorem dX6_reserve_37 : decode cX6_reserve 37 = .ok (.getfield 40, 3) := by decide +kernel
theorem dX6_reserve_40 : decode cX6_reserve 40 = .ok (.invokevirtual 238, 3) := by decide +kernel
theorem dX6_reserve_43 : decode cX6_reserve 43 = .ok (.ireturn, 1) := by decide +kernel
theorem dX6_cancel_0 : decode cX6_cancel 0 = .ok (.aload_n 0, 1) := by decide +kernel
theorem dX6_cancel_1 : decode cX6_cancel 1 = .ok (.getfield 19, 3) := by decide +kernel
theorem dX6_cancel_4 : decode cX6_cancel 4 = .ok (.iload_n 1, 1) := by decide +kernel
theorem dX6_cancel_5 : decode cX6_cancel 5 = .ok (.invokevirtual 189, 3) := by decide +kernel
theorem dX6_cancel_8 : decode cX6_cancel 8 = .ok (.ifCond .ne 5, 3) := by decide +kernel
theorem dX6_cancel_11 : decode cX6_cancel 11 = .ok (.iconst (-1), 1) := by decide +kernel
theorem dX6_cancel_12 : decode cX6_cancel 12 = .ok (.ireturn, 1) := by decide +kernel
theorem dX6_cancel_13 : decode cX6_cancel 13 = .ok (.aload_n 0, 1) := by decide +kernel
theorem dX6_cancel_14 : decode cX6_cancel 14 = .ok (.getfield 47, 3) := by decide +kernel
theorem dX6_cancel_17 : decode cX6_cancel 17 = .ok (.aload_n 0, 1) := by decide +kernel
theorem dX6_cancel_18 : decode cX6_cancel 18 = .ok (.getfield 19, 3) := by decide +kernel
theorem dX6_cancel_21 : decode cX6_cancel 21 = .ok (.invokevirtual 232, 3) := by decide +kernel
theorem dX6_cancel_24 : decode cX6_cancel 24 = .ok (.aload_n 0, 1) := by decide +kernel
theorem dX6_cancel_25 : decode cX6_cancel 25 = .ok (.getfield 19, 3) := by decide +kernel
theorem dX6_cancel_28 : decode cX6_cancel 28 = .ok (.iload_n 1, 1) := by decide +kernel
theorem dX6_cancel_29 : decode cX6_cancel 29 = .ok (.iconst 2, 1) := by decide +kernel
theorem dX6_cancel_30 : decode cX6_cancel 30 = .ok (.invokevirtual 241, 3) := by decide +kernel
theorem dX6_cancel_33 : decode cX6_cancel 33 = .ok (.ireturn, 1) := by decide +kernel
theorem dX6_hold_0 : decode cX6_hold 0 = .ok (.aload_n 0, 1) := by decide +kernel
theorem dX6_hold_1 : decode cX6_hold 1 = .ok (.getfield 19, 3) := by decide +kernel
theorem dX6_hold_4 : decode cX6_hold 4 = .ok (.iload_n 1, 1) := by decide +kernel
theorem dX6_hold_5 : decode cX6_hold 5 = .ok (.invokevirtual 115, 3) := by decide +kernel
theorem dX6_hold_8 : decode cX6_hold 8 = .ok (.ifCond .eq 10, 3) := by decide +kernel
theorem dX6_hold_11 : decode cX6_hold 11 = .ok (.iload_n 2, 1) := by decide +kernel
theorem dX6_hold_12 : decode cX6_hold 12 = .ok (.invokestatic 229, 3) := by decide +kernel
theorem dX6_hold_15 : decode cX6_hold 15 = .ok (.ifCond .ne 5, 3) := by decide +kernel
theorem dX6_hold_18 : decode cX6_hold 18 = .ok (.iconst (-1), 1) := by decide +kernel
theorem dX6_hold_19 : decode cX6_hold 19 = .ok (.ireturn, 1) := by decide +kernel
theorem dX6_hold_20 : decode cX6_hold 20 = .ok (.aload_n 0, 1) := by decide +kernel
theorem dX6_hold_21 : decode cX6_hold 21 = .ok (.getfield 47, 3) := by decide +kernel
theorem dX6_hold_24 : decode cX6_hold 24 = .ok (.aload_n 0, 1) := by decide +kernel
theorem dX6_hold_25 : decode cX6_hold 25 = .ok (.getfield 19, 3) := by decide +kernel
theorem dX6_hold_28 : decode cX6_hold 28 = .ok (.invokevirtual 232, 3) := by decide +kernel
theorem dX6_hold_31 : decode cX6_hold 31 = .ok (.aload_n 0, 1) := by decide +kernel
theorem dX6_hold_32 : decode cX6_hold 32 = .ok (.getfield 19, 3) := by decide +kernel
theorem dX6_hold_35 : decode cX6_hold 35 = .ok (.getfield 136, 3) := by decide +kernel
theorem dX6_hold_38 : decode cX6_hold 38 = .ok (.iload_n 1, 1) := by decide +kernel
theorem dX6_hold_39 : decode cX6_hold 39 = .ok (.iload_n 2, 1) := by decide +kernel
theorem dX6_hold_40 : decode cX6_hold 40 = .ok (.iastore, 1) := by decide +kernel
theorem dX6_hold_41 : decode cX6_hold 41 = .ok (.aload_n 0, 1) := by decide +kernel
theorem dX6_hold_42 : decode cX6_hold 42 = .ok (.getfield 19, 3) := by decide +kernel
theorem dX6_hold_45 : decode cX6_hold 45 = .ok (.iload_n 1, 1) := by decide +kernel
theorem dX6_hold_46 : decode cX6_hold 46 = .ok (.invokevirtual 244, 3) := by decide +kernel
theorem dX6_hold_49 : decode cX6_hold 49 = .ok (.ireturn, 1) := by decide +kernel
theorem dX6_deliver_0 : decode cX6_deliver 0 = .ok (.aload_n 0, 1) := by decide +kernel
theorem dX6_deliver_1 : decode cX6_deliver 1 = .ok (.getfield 19, 3) := by decide +kernel
theorem dX6_deliver_4 : decode cX6_deliver 4 = .ok (.iload_n 1, 1) := by decide +kernel
theorem dX6_deliver_5 : decode cX6_deliver 5 = .ok (.invokevirtual 189, 3) := by decide +kernel
theorem dX6_deliver_8 : decode cX6_deliver 8 = .ok (.ifCond .eq 33, 3) := by decide +kernel
theorem dX6_deliver_11 : decode cX6_deliver 11 = .ok (.aload_n 0, 1) := by decide +kernel
theorem dX6_deliver_12 : decode cX6_deliver 12 = .ok (.getfield 19, 3) := by decide +kernel
theorem dX6_deliver_15 : decode cX6_deliver 15 = .ok (.getfield 159, 3) := by decide +kernel
theorem dX6_deliver_18 : decode cX6_deliver 18 = .ok (.iload_n 1, 1) := by decide +kernel
theorem dX6_deliver_19 : decode cX6_deliver 19 = .ok (.iaload, 1) := by decide +kernel
theorem dX6_deliver_20 : decode cX6_deliver 20 = .ok (.aload_n 0, 1) := by decide +kernel
theorem dX6_deliver_21 : decode cX6_deliver 21 = .ok (.getfield 19, 3) := by decide +kernel
theorem dX6_deliver_24 : decode cX6_deliver 24 = .ok (.getfield 84, 3) := by decide +kernel
theorem dX6_deliver_27 : decode cX6_deliver 27 = .ok (.if_icmp .ne 14, 3) := by decide +kernel
theorem dX6_deliver_30 : decode cX6_deliver 30 = .ok (.aload_n 0, 1) := by decide +kernel
theorem dX6_deliver_31 : decode cX6_deliver 31 = .ok (.getfield 19, 3) := by decide +kernel
theorem dX6_deliver_34 : decode cX6_deliver 34 = .ok (.iload_n 1, 1) := by decide +kernel
theorem dX6_deliver_35 : decode cX6_deliver 35 = .ok (.invokevirtual 165, 3) := by decide +kernel
theorem dX6_deliver_38 : decode cX6_deliver 38 = .ok (.ifCond .ne 5, 3) := by decide +kernel
theorem dX6_deliver_41 : decode cX6_deliver 41 = .ok (.iconst (-1), 1) := by decide +kernel
theorem dX6_deliver_42 : decode cX6_deliver 42 = .ok (.ireturn, 1) := by decide +kernel
theorem dX6_deliver_43 : decode cX6_deliver 43 = .ok (.aload_n 0, 1) := by decide +kernel
theorem dX6_deliver_44 : decode cX6_deliver 44 = .ok (.getfield 47, 3) := by decide +kernel
theorem dX6_deliver_47 : decode cX6_deliver 47 = .ok (.aload_n 0, 1) := by decide +kernel
theorem dX6_deliver_48 : decode cX6_deliver 48 = .ok (.getfield 19, 3) := by decide +kernel
theorem dX6_deliver_51 : decode cX6_deliver 51 = .ok (.invokevirtual 232, 3) := by decide +kernel
theorem dX6_deliver_54 : decode cX6_deliver 54 = .ok (.aload_n 0, 1) := by decide +kernel
theorem dX6_deliver_55 : decode cX6_deliver 55 = .ok (.getfield 19, 3) := by decide +kernel
theorem dX6_deliver_58 : decode cX6_deliver 58 = .ok (.iload_n 1, 1) := by decide +kernel
theorem dX6_deliver_59 : decode cX6_deliver 59 = .ok (.invokevirtual 247, 3) := by decide +kernel
theorem dX6_deliver_62 : decode cX6_deliver 62 = .ok (.ireturn, 1) := by decide +kernel
theorem dX6_pass_0 : decode cX6_pass 0 = .ok (.iload_n 1, 1) := by decide +kernel
theorem dX6_pass_1 : decode cX6_pass 1 = .ok (.iconst 1, 1) := by decide +kernel
theorem dX6_pass_2 : decode cX6_pass 2 = .ok (.if_icmp .lt 24, 3) := by decide +kernel
theorem dX6_pass_5 : decode cX6_pass 5 = .ok (.iload_n 1, 1) := by decide +kernel
theorem dX6_pass_6 : decode cX6_pass 6 = .ok (.bipush 99, 2) := by decide +kernel
theorem dX6_pass_8 : decode cX6_pass 8 = .ok (.if_icmp .gt 18, 3) := by decide +kernel
theorem dX6_pass_11 : decode cX6_pass 11 = .ok (.aload_n 0, 1) := by decide +kernel
theorem dX6_pass_12 : decode cX6_pass 12 = .ok (.getfield 19, 3) := by decide +kernel
theorem dX6_pass_15 : decode cX6_pass 15 = .ok (.getfield 84, 3) := by decide +kernel
theorem dX6_pass_18 : decode cX6_pass 18 = .ok (.iload_n 1, 1) := by decide +kernel
theorem dX6_pass_19 : decode cX6_pass 19 = .ok (.iadd, 1) := by decide +kernel
theorem dX6_pass_20 : decode cX6_pass 20 = .ok (.sipush 900, 3) := by decide +kernel
theorem dX6_pass_23 : decode cX6_pass 23 = .ok (.if_icmp .le 5, 3) := by decide +kernel
theorem dX6_pass_26 : decode cX6_pass 26 = .ok (.iconst (-1), 1) := by decide +kernel
theorem dX6_pass_27 : decode cX6_pass 27 = .ok (.ireturn, 1) := by decide +kernel
theorem dX6_pass_28 : decode cX6_pass 28 = .ok (.aload_n 0, 1) := by decide +kernel
theorem dX6_pass_29 : decode cX6_pass 29 = .ok (.getfield 47, 3) := by decide +kernel
theorem dX6_pass_32 : decode cX6_pass 32 = .ok (.aload_n 0, 1) := by decide +kernel
theorem dX6_pass_33 : decode cX6_pass 33 = .ok (.getfield 19, 3) := by decide +kernel
theorem dX6_pass_36 : decode cX6_pass 36 = .ok (.invokevirtual 232, 3) := by decide +kernel
theorem dX6_pass_39 : decode cX6_pass 39 = .ok (.iconst 0, 1) := by decide +kernel
theorem dX6_pass_40 : decode cX6_pass 40 = .ok (.istore_n 2, 1) := by decide +kernel
theorem dX6_pass_41 : decode cX6_pass 41 = .ok (.iload_n 2, 1) := by decide +kernel
theorem dX6_pass_42 : decode cX6_pass 42 = .ok (.iload_n 1, 1) := by decide +kernel
theorem dX6_pass_43 : decode cX6_pass 43 = .ok (.if_icmp .ge 16, 3) := by decide +kernel
theorem dX6_pass_46 : decode cX6_pass 46 = .ok (.aload_n 0, 1) := by decide +kernel
theorem dX6_pass_47 : decode cX6_pass 47 = .ok (.getfield 19, 3) := by decide +kernel
theorem dX6_pass_50 : decode cX6_pass 50 = .ok (.invokevirtual 250, 3) := by decide +kernel
theorem dX6_pass_53 : decode cX6_pass 53 = .ok (.iinc 2 1, 3) := by decide +kernel
theorem dX6_pass_56 : decode cX6_pass 56 = .ok (.goto (-15), 3) := by decide +kernel
theorem dX6_pass_59 : decode cX6_pass 59 = .ok (.aload_n 0, 1) := by decide +kernel
theorem dX6_pass_60 : decode cX6_pass 60 = .ok (.getfield 19, 3) := by decide +kernel
theorem dX6_pass_63 : decode cX6_pass 63 = .ok (.getfield 84, 3) := by decide +kernel
theorem dX6_pass_66 : decode cX6_pass 66 = .ok (.ireturn, 1) := by decide +kernel
theorem dX6_undo_0 : decode cX6_undo 0 = .ok (.aload_n 0, 1) := by decide +kernel
theorem dX6_undo_1 : decode cX6_undo 1 = .ok (.getfield 47, 3) := by decide +kernel
theorem dX6_undo_4 : decode cX6_undo 4 = .ok (.getfield 112, 3) := by decide +kernel
theorem dX6_undo_7 : decode cX6_undo 7 = .ok (.ifCond .ne 5, 3) := by decide +kernel
theorem dX6_undo_10 : decode cX6_undo 10 = .ok (.iconst (-1), 1) := by decide +kernel
theorem dX6_undo_11 : decode cX6_undo 11 = .ok (.ireturn, 1) := by decide +kernel
theorem dX6_undo_12 : decode cX6_undo 12 = .ok (.aload_n 0, 1) := by decide +kernel
theorem dX6_undo_13 : decode cX6_undo 13 = .ok (.getfield 47, 3) := by decide +kernel
theorem dX6_undo_16 : decode cX6_undo 16 = .ok (.aload_n 0, 1) := by decide +kernel
theorem dX6_undo_17 : decode cX6_undo 17 = .ok (.getfield 19, 3) := by decide +kernel
theorem dX6_undo_20 : decode cX6_undo 20 = .ok (.invokevirtual 253, 3) := by decide +kernel
theorem dX6_undo_23 : decode cX6_undo 23 = .ok (.aload_n 0, 1) := by decide +kernel
theorem dX6_undo_24 : decode cX6_undo 24 = .ok (.getfield 47, 3) := by decide +kernel
theorem dX6_undo_27 : decode cX6_undo 27 = .ok (.getfield 112, 3) := by decide +kernel
theorem dX6_undo_30 : decode cX6_undo 30 = .ok (.ireturn, 1) := by decide +kernel
theorem dX6_isSum_0 : decode cX6_isSum 0 = .ok (.iload_n 0, 1) := by decide +kernel
theorem dX6_isSum_1 : decode cX6_isSum 1 = .ok (.iconst 1, 1) := by decide +kernel
theorem dX6_isSum_2 : decode cX6_isSum 2 = .ok (.if_icmp .lt 13, 3) := by decide +kernel
theorem dX6_isSum_5 : decode cX6_isSum 5 = .ok (.iload_n 0, 1) := by decide +kernel
theorem dX6_isSum_6 : decode cX6_isSum 6 = .ok (.bipush 99, 2) := by decide +kernel
theorem dX6_isSum_8 : decode cX6_isSum 8 = .ok (.if_icmp .gt 7, 3) := by decide +kernel
theorem dX6_isSum_11 : decode cX6_isSum 11 = .ok (.iconst 1, 1) := by decide +kernel
theorem dX6_isSum_12 : decode cX6_isSum 12 = .ok (.goto 4, 3) := by decide +kernel
theorem dX6_isSum_15 : decode cX6_isSum 15 = .ok (.iconst 0, 1) := by decide +kernel
theorem dX6_isSum_16 : decode cX6_isSum 16 = .ok (.ireturn, 1) := by decide +kernel
theorem dX6_isHold_0 : decode cX6_isHold 0 = .ok (.iload_n 0, 1) := by decide +kernel
theorem dX6_isHold_1 : decode cX6_isHold 1 = .ok (.ifCond .lt 14, 3) := by decide +kernel
theorem dX6_isHold_4 : decode cX6_isHold 4 = .ok (.iload_n 0, 1) := by decide +kernel
theorem dX6_isHold_5 : decode cX6_isHold 5 = .ok (.sipush 999, 3) := by decide +kernel
theorem dX6_isHold_8 : decode cX6_isHold 8 = .ok (.if_icmp .gt 7, 3) := by decide +kernel
theorem dX6_isHold_11 : decode cX6_isHold 11 = .ok (.iconst 1, 1) := by decide +kernel
theorem dX6_isHold_12 : decode cX6_isHold 12 = .ok (.goto 4, 3) := by decide +kernel
theorem dX6_isHold_15 : decode cX6_isHold 15 = .ok (.iconst 0, 1) := by decide +kernel
theorem dX6_isHold_16 : decode cX6_isHold 16 = .ok (.ireturn, 1) := by decide +kernel
theorem dX6_isOrder_0 : decode cX6_isOrder 0 = .ok (.aload_n 0, 1) := by decide +kernel
theorem dX6_isOrder_1 : decode cX6_isOrder 1 = .ok (.getfield 19, 3) := by decide +kernel
theorem dX6_isOrder_4 : decode cX6_isOrder 4 = .ok (.iload_n 1, 1) := by decide +kernel
theorem dX6_isOrder_5 : decode cX6_isOrder 5 = .ok (.invokevirtual 177, 3) := by decide +kernel
theorem dX6_isOrder_8 : decode cX6_isOrder 8 = .ok (.ifCond .eq 37, 3) := by decide +kernel
theorem dX6_isOrder_11 : decode cX6_isOrder 11 = .ok (.aload_n 0, 1) := by decide +kernel
theorem dX6_isOrder_12 : decode cX6_isOrder 12 = .ok (.getfield 19, 3) := by decide +kernel
theorem dX6_isOrder_15 : decode cX6_isOrder 15 = .ok (.iload_n 2, 1) := by decide +kernel
theorem dX6_isOrder_16 : decode cX6_isOrder 16 = .ok (.invokevirtual 183, 3) := by decide +kernel
theorem dX6_isOrder_19 : decode cX6_isOrder 19 = .ok (.ifCond .eq 26, 3) := by decide +kernel
theorem dX6_isOrder_22 : decode cX6_isOrder 22 = .ok (.iload_n 3, 1) := by decide +kernel
theorem dX6_isOrder_23 : decode cX6_isOrder 23 = .ok (.invokestatic 226, 3) := by decide +kernel
theorem dX6_isOrder_26 : decode cX6_isOrder 26 = .ok (.ifCond .eq 19, 3) := by decide +kernel
theorem dX6_isOrder_29 : decode cX6_isOrder 29 = .ok (.aload_n 0, 1) := by decide +kernel
theorem dX6_isOrder_30 : decode cX6_isOrder 30 = .ok (.getfield 19, 3) := by decide +kernel
theorem dX6_isOrder_33 : decode cX6_isOrder 33 = .ok (.iload 4, 2) := by decide +kernel
theorem dX6_isOrder_35 : decode cX6_isOrder 35 = .ok (.invokevirtual 206, 3) := by decide +kernel
theorem dX6_isOrder_38 : decode cX6_isOrder 38 = .ok (.ifCond .eq 7, 3) := by decide +kernel
theorem dX6_isOrder_41 : decode cX6_isOrder 41 = .ok (.iconst 1, 1) := by decide +kernel
theorem dX6_isOrder_42 : decode cX6_isOrder 42 = .ok (.goto 4, 3) := by decide +kernel
theorem dX6_isOrder_45 : decode cX6_isOrder 45 = .ok (.iconst 0, 1) := by decide +kernel
theorem dX6_isOrder_46 : decode cX6_isOrder 46 = .ok (.ireturn, 1) := by decide +kernel
theorem dX6_isFilledWith_0 : decode cX6_isFilledWith 0 = .ok (.aload_n 0, 1) := by decide +kernel
theorem dX6_isFilledWith_1 : decode cX6_isFilledWith 1 = .ok (.getfield 19, 3) := by decide +kernel
theorem dX6_isFilledWith_4 : decode cX6_isFilledWith 4 = .ok (.getfield 150, 3) := by decide +kernel
theorem dX6_isFilledWith_7 : decode cX6_isFilledWith 7 = .ok (.iload_n 2, 1) := by decide +kernel
theorem dX6_isFilledWith_8 : decode cX6_isFilledWith 8 = .ok (.iaload, 1) := by decide +kernel
theorem dX6_isFilledWith_9 : decode cX6_isFilledWith 9 = .ok (.istore_n 3, 1) := by decide +kernel
theorem dX6_isFilledWith_10 : decode cX6_isFilledWith 10 = .ok (.aload_n 0, 1) := by decide +kernel
theorem dX6_isFilledWith_11 : decode cX6_isFilledWith 11 = .ok (.getfield 23, 3) := by decide +kernel
theorem dX6_isFilledWith_14 : decode cX6_isFilledWith 14 = .ok (.getfield 180, 3) := by decide +kernel
theorem dX6_isFilledWith_17 : decode cX6_isFilledWith 17 = .ok (.iload_n 3, 1) := by decide +kernel
theorem dX6_isFilledWith_18 : decode cX6_isFilledWith 18 = .ok (.aload_n 0, 1) := by decide +kernel
theorem dX6_isFilledWith_19 : decode cX6_isFilledWith 19 = .ok (.getfield 19, 3) := by decide +kernel
theorem dX6_isFilledWith_22 : decode cX6_isFilledWith 22 = .ok (.getfield 180, 3) := by decide +kernel
theorem dX6_isFilledWith_25 : decode cX6_isFilledWith 25 = .ok (.iload_n 3, 1) := by decide +kernel
theorem dX6_isFilledWith_26 : decode cX6_isFilledWith 26 = .ok (.iaload, 1) := by decide +kernel
theorem dX6_isFilledWith_27 : decode cX6_isFilledWith 27 = .ok (.iload_n 1, 1) := by decide +kernel
theorem dX6_isFilledWith_28 : decode cX6_isFilledWith 28 = .ok (.isub, 1) := by decide +kernel
theorem dX6_isFilledWith_29 : decode cX6_isFilledWith 29 = .ok (.iastore, 1) := by decide +kernel
theorem dX6_isFilledWith_30 : decode cX6_isFilledWith 30 = .ok (.aload_n 0, 1) := by decide +kernel
theorem dX6_isFilledWith_31 : decode cX6_isFilledWith 31 = .ok (.getfield 40, 3) := by decide +kernel
theorem dX6_isFilledWith_34 : decode cX6_isFilledWith 34 = .ok (.aload_n 0, 1) := by decide +kernel
theorem dX6_isFilledWith_35 : decode cX6_isFilledWith 35 = .ok (.getfield 23, 3) := by decide +kernel
theorem dX6_isFilledWith_38 : decode cX6_isFilledWith 38 = .ok (.aload_n 0, 1) := by decide +kernel
theorem dX6_isFilledWith_39 : decode cX6_isFilledWith 39 = .ok (.getfield 19, 3) := by decide +kernel
theorem dX6_isFilledWith_42 : decode cX6_isFilledWith 42 = .ok (.getfield 153, 3) := by decide +kernel
theorem dX6_isFilledWith_45 : decode cX6_isFilledWith 45 = .ok (.iload_n 2, 1) := by decide +kernel
theorem dX6_isFilledWith_46 : decode cX6_isFilledWith 46 = .ok (.iaload, 1) := by decide +kernel
theorem dX6_isFilledWith_47 : decode cX6_isFilledWith 47 = .ok (.invokevirtual 196, 3) := by decide +kernel
theorem dX6_isFilledWith_50 : decode cX6_isFilledWith 50 = .ok (.aload_n 0, 1) := by decide +kernel
theorem dX6_isFilledWith_51 : decode cX6_isFilledWith 51 = .ok (.getfield 40, 3) := by decide +kernel
theorem dX6_isFilledWith_54 : decode cX6_isFilledWith 54 = .ok (.iload_n 2, 1) := by decide +kernel
theorem dX6_isFilledWith_55 : decode cX6_isFilledWith 55 = .ok (.invokevirtual 200, 3) := by decide +kernel
theorem dX6_isFilledWith_58 : decode cX6_isFilledWith 58 = .ok (.aload_n 0, 1) := by decide +kernel
theorem dX6_isFilledWith_59 : decode cX6_isFilledWith 59 = .ok (.getfield 19, 3) := by decide +kernel
theorem dX6_isFilledWith_62 : decode cX6_isFilledWith 62 = .ok (.getfield 156, 3) := by decide +kernel
theorem dX6_isFilledWith_65 : decode cX6_isFilledWith 65 = .ok (.iload_n 2, 1) := by decide +kernel
theorem dX6_isFilledWith_66 : decode cX6_isFilledWith 66 = .ok (.iaload, 1) := by decide +kernel
theorem dX6_isFilledWith_67 : decode cX6_isFilledWith 67 = .ok (.if_icmp .ne 7, 3) := by decide +kernel
theorem dX6_isFilledWith_70 : decode cX6_isFilledWith 70 = .ok (.iconst 1, 1) := by decide +kernel
theorem dX6_isFilledWith_71 : decode cX6_isFilledWith 71 = .ok (.goto 4, 3) := by decide +kernel
theorem dX6_isFilledWith_74 : decode cX6_isFilledWith 74 = .ok (.iconst 0, 1) := by decide +kernel
theorem dX6_isFilledWith_75 : decode cX6_isFilledWith 75 = .ok (.ireturn, 1) := by decide +kernel
