theorem dX0_init_0 : decode cX0_init 0 = .ok (.aload_n 0, 1) := by decide +kernel
theorem dX0_init_1 : decode cX0_init 1 = .ok (.invokespecial 3, 3) := by decide +kernel
theorem dX0_init_4 : decode cX0_init 4 = .ok (.aload_n 0, 1) := by decide +kernel
theorem dX0_init_5 : decode cX0_init 5 = .ok (.bipush 10, 2) := by decide +kernel
theorem dX0_init_7 : decode cX0_init 7 = .ok (.anewarray 9, 3) := by decide +kernel
theorem dX0_init_10 : decode cX0_init 10 = .ok (.putfield 11, 3) := by decide +kernel
theorem dX0_init_13 : decode cX0_init 13 = .ok (.iconst 0, 1) := by decide +kernel
theorem dX0_init_14 : decode cX0_init 14 = .ok (.istore_n 1, 1) := by decide +kernel
theorem dX0_init_15 : decode cX0_init 15 = .ok (.iload_n 1, 1) := by decide +kernel
theorem dX0_init_16 : decode cX0_init 16 = .ok (.bipush 10, 2) := by decide +kernel
theorem dX0_init_18 : decode cX0_init 18 = .ok (.if_icmp .ge 22, 3) := by decide +kernel
theorem dX0_init_21 : decode cX0_init 21 = .ok (.aload_n 0, 1) := by decide +kernel
theorem dX0_init_22 : decode cX0_init 22 = .ok (.getfield 11, 3) := by decide +kernel
theorem dX0_init_25 : decode cX0_init 25 = .ok (.iload_n 1, 1) := by decide +kernel
theorem dX0_init_26 : decode cX0_init 26 = .ok (.new 9, 3) := by decide +kernel
theorem dX0_init_29 : decode cX0_init 29 = .ok (.dup, 1) := by decide +kernel
theorem dX0_init_30 : decode cX0_init 30 = .ok (.invokespecial 17, 3) := by decide +kernel
theorem dX0_init_33 : decode cX0_init 33 = .ok (.aastore, 1) := by decide +kernel
theorem dX0_init_34 : decode cX0_init 34 = .ok (.iinc 1 1, 3) := by decide +kernel
theorem dX0_init_37 : decode cX0_init 37 = .ok (.goto (-22), 3) := by decide +kernel
theorem dX0_init_40 : decode cX0_init 40 = .ok (.return_, 1) := by decide +kernel
theorem dX0_keep_0 : decode cX0_keep 0 = .ok (.aload_n 0, 1) := by decide +kernel
theorem dX0_keep_1 : decode cX0_keep 1 = .ok (.getfield 11, 3) := by decide +kernel
theorem dX0_keep_4 : decode cX0_keep 4 = .ok (.aload_n 0, 1) := by decide +kernel
theorem dX0_keep_5 : decode cX0_keep 5 = .ok (.getfield 18, 3) := by decide +kernel
theorem dX0_keep_8 : decode cX0_keep 8 = .ok (.aaload, 1) := by decide +kernel
theorem dX0_keep_9 : decode cX0_keep 9 = .ok (.aload_n 1, 1) := by decide +kernel
theorem dX0_keep_10 : decode cX0_keep 10 = .ok (.invokevirtual 22, 3) := by decide +kernel
theorem dX0_keep_13 : decode cX0_keep 13 = .ok (.aload_n 0, 1) := by decide +kernel
theorem dX0_keep_14 : decode cX0_keep 14 = .ok (.aload_n 0, 1) := by decide +kernel
theorem dX0_keep_15 : decode cX0_keep 15 = .ok (.getfield 18, 3) := by decide +kernel
theorem dX0_keep_18 : decode cX0_keep 18 = .ok (.iconst 1, 1) := by decide +kernel
theorem dX0_keep_19 : decode cX0_keep 19 = .ok (.iadd, 1) := by decide +kernel
theorem dX0_keep_20 : decode cX0_keep 20 = .ok (.bipush 10, 2) := by decide +kernel
theorem dX0_keep_22 : decode cX0_keep 22 = .ok (.if_icmp .ge 12, 3) := by decide +kernel
theorem dX0_keep_25 : decode cX0_keep 25 = .ok (.aload_n 0, 1) := by decide +kernel
theorem dX0_keep_26 : decode cX0_keep 26 = .ok (.getfield 18, 3) := by decide +kernel
theorem dX0_keep_29 : decode cX0_keep 29 = .ok (.iconst 1, 1) := by decide +kernel
theorem dX0_keep_30 : decode cX0_keep 30 = .ok (.iadd, 1) := by decide +kernel
theorem dX0_keep_31 : decode cX0_keep 31 = .ok (.goto 4, 3) := by decide +kernel
theorem dX0_keep_34 : decode cX0_keep 34 = .ok (.iconst 0, 1) := by decide +kernel
theorem dX0_keep_35 : decode cX0_keep 35 = .ok (.putfield 18, 3) := by decide +kernel
theorem dX0_keep_38 : decode cX0_keep 38 = .ok (.aload_n 0, 1) := by decide +kernel
theorem dX0_keep_39 : decode cX0_keep 39 = .ok (.aload_n 0, 1) := by decide +kernel
theorem dX0_keep_40 : decode cX0_keep 40 = .ok (.getfield 26, 3) := by decide +kernel
theorem dX0_keep_43 : decode cX0_keep 43 = .ok (.iconst 1, 1) := by decide +kernel
theorem dX0_keep_44 : decode cX0_keep 44 = .ok (.iadd, 1) := by decide +kernel
theorem dX0_keep_45 : decode cX0_keep 45 = .ok (.bipush 10, 2) := by decide +kernel
theorem dX0_keep_47 : decode cX0_keep 47 = .ok (.invokestatic 29, 3) := by decide +kernel
theorem dX0_keep_50 : decode cX0_keep 50 = .ok (.putfield 26, 3) := by decide +kernel
theorem dX0_keep_53 : decode cX0_keep 53 = .ok (.return_, 1) := by decide +kernel
theorem dX0_bringBack_0 : decode cX0_bringBack 0 = .ok (.aload_n 0, 1) := by decide +kernel
theorem dX0_bringBack_1 : decode cX0_bringBack 1 = .ok (.aload_n 0, 1) := by decide +kernel
theorem dX0_bringBack_2 : decode cX0_bringBack 2 = .ok (.getfield 18, 3) := by decide +kernel
theorem dX0_bringBack_5 : decode cX0_bringBack 5 = .ok (.ifCond .le 12, 3) := by decide +kernel
theorem dX0_bringBack_8 : decode cX0_bringBack 8 = .ok (.aload_n 0, 1) := by decide +kernel
theorem dX0_bringBack_9 : decode cX0_bringBack 9 = .ok (.getfield 18, 3) := by decide +kernel
theorem dX0_bringBack_12 : decode cX0_bringBack 12 = .ok (.iconst 1, 1) := by decide +kernel
theorem dX0_bringBack_13 : decode cX0_bringBack 13 = .ok (.isub, 1) := by decide +kernel
theorem dX0_bringBack_14 : decode cX0_bringBack 14 = .ok (.goto 5, 3) := by decide +kernel
theorem dX0_bringBack_17 : decode cX0_bringBack 17 = .ok (.bipush 9, 2) := by decide +kernel
theorem dX0_bringBack_19 : decode cX0_bringBack 19 = .ok (.putfield 18, 3) := by decide +kernel
theorem dX0_bringBack_22 : decode cX0_bringBack 22 = .ok (.aload_n 0, 1) := by decide +kernel
theorem dX0_bringBack_23 : decode cX0_bringBack 23 = .ok (.dup, 1) := by decide +kernel
theorem dX0_bringBack_24 : decode cX0_bringBack 24 = .ok (.getfield 26, 3) := by decide +kernel
theorem dX0_bringBack_27 : decode cX0_bringBack 27 = .ok (.iconst 1, 1) := by decide +kernel
theorem dX0_bringBack_28 : decode cX0_bringBack 28 = .ok (.isub, 1) := by decide +kernel
theorem dX0_bringBack_29 : decode cX0_bringBack 29 = .ok (.putfield 26, 3) := by decide +kernel
theorem dX0_bringBack_32 : decode cX0_bringBack 32 = .ok (.aload_n 1, 1) := by decide +kernel
theorem dX0_bringBack_33 : decode cX0_bringBack 33 = .ok (.aload_n 0, 1) := by decide +kernel
theorem dX0_bringBack_34 : decode cX0_bringBack 34 = .ok (.getfield 11, 3) := by decide +kernel
theorem dX0_bringBack_37 : decode cX0_bringBack 37 = .ok (.aload_n 0, 1) := by decide +kernel
theorem dX0_bringBack_38 : decode cX0_bringBack 38 = .ok (.getfield 18, 3) := by decide +kernel
theorem dX0_bringBack_41 : decode cX0_bringBack 41 = .ok (.aaload, 1) := by decide +kernel
theorem dX0_bringBack_42 : decode cX0_bringBack 42 = .ok (.invokevirtual 22, 3) := by decide +kernel
theorem dX0_bringBack_45 : decode cX0_bringBack 45 = .ok (.return_, 1) := by decide +kernel
theorem dX0_forget_0 : decode cX0_forget 0 = .ok (.aload_n 0, 1) := by decide +kernel
theorem dX0_forget_1 : decode cX0_forget 1 = .ok (.iconst 0, 1) := by decide +kernel
theorem dX0_forget_2 : decode cX0_forget 2 = .ok (.putfield 26, 3) := by decide +kernel
theorem dX0_forget_5 : decode cX0_forget 5 = .ok (.return_, 1) := by decide +kernel
theorem dX1_init_0 : decode cX1_init 0 = .ok (.aload_n 0, 1) := by decide +kernel
theorem dX1_init_1 : decode cX1_init 1 = .ok (.invokespecial 3, 3) := by decide +kernel
theorem dX1_init_4 : decode cX1_init 4 = .ok (.aload_n 0, 1) := by decide +kernel
theorem dX1_init_5 : decode cX1_init 5 = .ok (.bipush 24, 2) := by decide +kernel
theorem dX1_init_7 : decode cX1_init 7 = .ok (.newarray .int, 2) := by decide +kernel
theorem dX1_init_9 : decode cX1_init 9 = .ok (.putfield 9, 3) := by decide +kernel
theorem dX1_init_12 : decode cX1_init 12 = .ok (.aload_n 0, 1) := by decide +kernel
theorem dX1_init_13 : decode cX1_init 13 = .ok (.bipush 24, 2) := by decide +kernel
theorem dX1_init_15 : decode cX1_init 15 = .ok (.newarray .int, 2) := by decide +kernel
theorem dX1_init_17 : decode cX1_init 17 = .ok (.putfield 15, 3) := by decide +kernel
theorem dX1_init_20 : decode cX1_init 20 = .ok (.aload_n 0, 1) := by decide +kernel
theorem dX1_init_21 : decode cX1_init 21 = .ok (.bipush 6, 2) := by decide +kernel
theorem dX1_init_23 : decode cX1_init 23 = .ok (.newarray .int, 2) := by decide +kernel
theorem dX1_init_25 : decode cX1_init 25 = .ok (.putfield 18, 3) := by decide +kernel
theorem dX1_init_28 : decode cX1_init 28 = .ok (.aload_n 0, 1) := by decide +kernel
theorem dX1_init_29 : decode cX1_init 29 = .ok (.sipush 144, 3) := by decide +kernel
theorem dX1_init_32 : decode cX1_init 32 = .ok (.newarray .int, 2) := by decide +kernel
theorem dX1_init_34 : decode cX1_init 34 = .ok (.putfield 21, 3) := by decide +kernel
theorem dX1_init_37 : decode cX1_init 37 = .ok (.aload_n 0, 1) := by decide +kernel
theorem dX1_init_38 : decode cX1_init 38 = .ok (.aload_n 1, 1) := by decide +kernel
theorem dX1_init_39 : decode cX1_init 39 = .ok (.putfield 24, 3) := by decide +kernel
theorem dX1_init_42 : decode cX1_init 42 = .ok (.return_, 1) := by decide +kernel
theorem dX1_make_0 : decode cX1_make 0 = .ok (.aload_n 0, 1) := by decide +kernel
theorem dX1_make_1 : decode cX1_make 1 = .ok (.aload_n 1, 1) := by decide +kernel
theorem dX1_make_2 : decode cX1_make 2 = .ok (.putfield 24, 3) := by decide +kernel
theorem dX1_make_5 : decode cX1_make 5 = .ok (.aload_n 0, 1) := by decide +kernel
theorem dX1_make_6 : decode cX1_make 6 = .ok (.iload_n 2, 1) := by decide +kernel
theorem dX1_make_7 : decode cX1_make 7 = .ok (.invokevirtual 28, 3) := by decide +kernel
theorem dX1_make_10 : decode cX1_make 10 = .ok (.aload_n 0, 1) := by decide +kernel
theorem dX1_make_11 : decode cX1_make 11 = .ok (.iload_n 2, 1) := by decide +kernel
theorem dX1_make_12 : decode cX1_make 12 = .ok (.invokevirtual 32, 3) := by decide +kernel
theorem dX1_make_15 : decode cX1_make 15 = .ok (.iconst 0, 1) := by decide +kernel
theorem dX1_make_16 : decode cX1_make 16 = .ok (.istore_n 3, 1) := by decide +kernel
theorem dX1_make_17 : decode cX1_make 17 = .ok (.iload_n 3, 1) := by decide +kernel
theorem dX1_make_18 : decode cX1_make 18 = .ok (.aload_n 0, 1) := by decide +kernel
theorem dX1_make_19 : decode cX1_make 19 = .ok (.getfield 35, 3) := by decide +kernel
theorem dX1_make_22 : decode cX1_make 22 = .ok (.if_icmp .ge 14, 3) := by decide +kernel
theorem dX1_make_25 : decode cX1_make 25 = .ok (.aload_n 0, 1) := by decide +kernel
theorem dX1_make_26 : decode cX1_make 26 = .ok (.iload_n 3, 1) := by decide +kernel
theorem dX1_make_27 : decode cX1_make 27 = .ok (.invokevirtual 39, 3) := by decide +kernel
theorem dX1_make_30 : decode cX1_make 30 = .ok (.iinc 3 1, 3) := by decide +kernel
theorem dX1_make_33 : decode cX1_make 33 = .ok (.goto (-16), 3) := by decide +kernel
theorem dX1_make_36 : decode cX1_make 36 = .ok (.return_, 1) := by decide +kernel
theorem dX1_grantOf_0 : decode cX1_grantOf 0 = .ok (.aload_n 0, 1) := by decide +kernel
theorem dX1_grantOf_1 : decode cX1_grantOf 1 = .ok (.iload_n 1, 1) := by decide +kernel
theorem dX1_grantOf_2 : decode cX1_grantOf 2 = .ok (.invokevirtual 42, 3) := by decide +kernel
theorem dX1_grantOf_5 : decode cX1_grantOf 5 = .ok (.istore_n 2, 1) := by decide +kernel
theorem dX1_grantOf_6 : decode cX1_grantOf 6 = .ok (.iconst 0, 1) := by decide +kernel
theorem dX1_grantOf_7 : decode cX1_grantOf 7 = .ok (.istore_n 3, 1) := by decide +kernel
theorem dX1_grantOf_8 : decode cX1_grantOf 8 = .ok (.iconst 0, 1) := by decide +kernel
theorem dX1_grantOf_9 : decode cX1_grantOf 9 = .ok (.istore 4, 2) := by decide +kernel
theorem dX1_grantOf_11 : decode cX1_grantOf 11 = .ok (.iload 4, 2) := by decide +kernel
theorem dX1_grantOf_13 : decode cX1_grantOf 13 = .ok (.aload_n 0, 1) := by decide +kernel
theorem dX1_grantOf_14 : decode cX1_grantOf 14 = .ok (.getfield 46, 3) := by decide +kernel
theorem dX1_grantOf_17 : decode cX1_grantOf 17 = .ok (.if_icmp .ge 28, 3) := by decide +kernel
theorem dX1_grantOf_20 : decode cX1_grantOf 20 = .ok (.iload_n 2, 1) := by decide +kernel
theorem dX1_grantOf_21 : decode cX1_grantOf 21 = .ok (.iconst (-1), 1) := by decide +kernel
theorem dX1_grantOf_22 : decode cX1_grantOf 22 = .ok (.if_icmp .eq 23, 3) := by decide +kernel
theorem dX1_grantOf_25 : decode cX1_grantOf 25 = .ok (.iload_n 3, 1) := by decide +kernel
theorem dX1_grantOf_26 : decode cX1_grantOf 26 = .ok (.aload_n 0, 1) := by decide +kernel
theorem dX1_grantOf_27 : decode cX1_grantOf 27 = .ok (.getfield 21, 3) := by decide +kernel
theorem dX1_grantOf_30 : decode cX1_grantOf 30 = .ok (.iload 4, 2) := by decide +kernel
theorem dX1_grantOf_32 : decode cX1_grantOf 32 = .ok (.iload_n 2, 1) := by decide +kernel
theorem dX1_grantOf_33 : decode cX1_grantOf 33 = .ok (.invokestatic 49, 3) := by decide +kernel
theorem dX1_grantOf_36 : decode cX1_grantOf 36 = .ok (.iaload, 1) := by decide +kernel
theorem dX1_grantOf_37 : decode cX1_grantOf 37 = .ok (.iadd, 1) := by decide +kernel
theorem dX1_grantOf_38 : decode cX1_grantOf 38 = .ok (.istore_n 3, 1) := by decide +kernel
theorem dX1_grantOf_39 : decode cX1_grantOf 39 = .ok (.iinc 4 1, 3) := by decide +kernel
theorem dX1_grantOf_42 : decode cX1_grantOf 42 = .ok (.goto (-31), 3) := by decide +kernel
theorem dX1_grantOf_45 : decode cX1_grantOf 45 = .ok (.iload_n 3, 1) := by decide +kernel
theorem dX1_grantOf_46 : decode cX1_grantOf 46 = .ok (.ireturn, 1) := by decide +kernel
theorem dX1_shareOf_0 : decode cX1_shareOf 0 = .ok (.aload_n 0, 1) := by decide +kernel
theorem dX1_shareOf_1 : decode cX1_shareOf 1 = .ok (.iload_n 2, 1) := by decide +kernel
theorem dX1_shareOf_2 : decode cX1_shareOf 2 = .ok (.invokevirtual 42, 3) := by decide +kernel
theorem dX1_shareOf_5 : decode cX1_shareOf 5 = .ok (.istore_n 3, 1) := by decide +kernel
theorem dX1_shareOf_6 : decode cX1_shareOf 6 = .ok (.iconst 0, 1) := by decide +kernel
theorem dX1_shareOf_7 : decode cX1_shareOf 7 = .ok (.istore 4, 2) := by decide +kernel
theorem dX1_shareOf_9 : decode cX1_shareOf 9 = .ok (.iload 4, 2) := by decide +kernel
theorem dX1_shareOf_11 : decode cX1_shareOf 11 = .ok (.aload_n 0, 1) := by decide +kernel
theorem dX1_shareOf_12 : decode cX1_shareOf 12 = .ok (.getfield 46, 3) := by decide +kernel
theorem dX1_shareOf_15 : decode cX1_shareOf 15 = .ok (.if_icmp .ge 37, 3) := by decide +kernel
theorem dX1_shareOf_18 : decode cX1_shareOf 18 = .ok (.iload_n 3, 1) := by decide +kernel
theorem dX1_shareOf_19 : decode cX1_shareOf 19 = .ok (.iconst (-1), 1) := by decide +kernel
theorem dX1_shareOf_20 : decode cX1_shareOf 20 = .ok (.if_icmp .eq 32, 3) := by decide +kernel
theorem dX1_shareOf_23 : decode cX1_shareOf 23 = .ok (.aload_n 0, 1) := by decide +kernel
theorem dX1_shareOf_24 : decode cX1_shareOf 24 = .ok (.getfield 9, 3) := by decide +kernel
theorem dX1_shareOf_27 : decode cX1_shareOf 27 = .ok (.iload 4, 2) := by decide +kernel
theorem dX1_shareOf_29 : decode cX1_shareOf 29 = .ok (.iaload, 1) := by decide +kernel
theorem dX1_shareOf_30 : decode cX1_shareOf 30 = .ok (.iload_n 1, 1) := by decide +kernel
theorem dX1_shareOf_31 : decode cX1_shareOf 31 = .ok (.if_icmp .ne 15, 3) := by decide +kernel
theorem dX1_shareOf_34 : decode cX1_shareOf 34 = .ok (.aload_n 0, 1) := by decide +kernel
theorem dX1_shareOf_35 : decode cX1_shareOf 35 = .ok (.getfield 21, 3) := by decide +kernel
theorem dX1_shareOf_38 : decode cX1_shareOf 38 = .ok (.iload 4, 2) := by decide +kernel
theorem dX1_shareOf_40 : decode cX1_shareOf 40 = .ok (.iload_n 3, 1) := by decide +kernel
theorem dX1_shareOf_41 : decode cX1_shareOf 41 = .ok (.invokestatic 49, 3) := by decide +kernel
theorem dX1_shareOf_44 : decode cX1_shareOf 44 = .ok (.iaload, 1) := by decide +kernel
theorem dX1_shareOf_45 : decode cX1_shareOf 45 = .ok (.ireturn, 1) := by decide +kernel
theorem dX1_shareOf_46 : decode cX1_shareOf 46 = .ok (.iinc 4 1, 3) := by decide +kernel
theorem dX1_shareOf_49 : decode cX1_shareOf 49 = .ok (.goto (-40), 3) := by decide +kernel
theorem dX1_shareOf_52 : decode cX1_shareOf 52 = .ok (.iconst 0, 1) := by decide +kernel
theorem dX1_shareOf_53 : decode cX1_shareOf 53 = .ok (.ireturn, 1) := by decide +kernel
theorem dX1_sumRestTo_0 : decode cX1_sumRestTo 0 = .ok (.iconst 0, 1) := by decide +kernel
theorem dX1_sumRestTo_1 : decode cX1_sumRestTo 1 = .ok (.istore_n 2, 1) := by decide +kernel
theorem dX1_sumRestTo_2 : decode cX1_sumRestTo 2 = .ok (.iconst 0, 1) := by decide +kernel
theorem dX1_sumRestTo_3 : decode cX1_sumRestTo 3 = .ok (.istore_n 3, 1) := by decide +kernel
theorem dX1_sumRestTo_4 : decode cX1_sumRestTo 4 = .ok (.iload_n 3, 1) := by decide +kernel
theorem dX1_sumRestTo_5 : decode cX1_sumRestTo 5 = .ok (.aload_n 0, 1) := by decide +kernel
theorem dX1_sumRestTo_6 : decode cX1_sumRestTo 6 = .ok (.getfield 46, 3) := by decide +kernel
theorem dX1_sumRestTo_9 : decode cX1_sumRestTo 9 = .ok (.if_icmp .ge 36, 3) := by decide +kernel
theorem dX1_sumRestTo_12 : decode cX1_sumRestTo 12 = .ok (.aload_n 0, 1) := by decide +kernel
theorem dX1_sumRestTo_13 : decode cX1_sumRestTo 13 = .ok (.getfield 24, 3) := by decide +kernel
theorem dX1_sumRestTo_16 : decode cX1_sumRestTo 16 = .ok (.getfield 53, 3) := by decide +kernel
theorem dX1_sumRestTo_19 : decode cX1_sumRestTo 19 = .ok (.aload_n 0, 1) := by decide +kernel
theorem dX1_sumRestTo_20 : decode cX1_sumRestTo 20 = .ok (.getfield 9, 3) := by decide +kernel
theorem dX1_sumRestTo_23 : decode cX1_sumRestTo 23 = .ok (.iload_n 3, 1) := by decide +kernel
theorem dX1_sumRestTo_24 : decode cX1_sumRestTo 24 = .ok (.iaload, 1) := by decide +kernel
theorem dX1_sumRestTo_25 : decode cX1_sumRestTo 25 = .ok (.iaload, 1) := by decide +kernel
theorem dX1_sumRestTo_26 : decode cX1_sumRestTo 26 = .ok (.iload_n 1, 1) := by decide +kernel
theorem dX1_sumRestTo_27 : decode cX1_sumRestTo 27 = .ok (.if_icmp .gt 12, 3) := by decide +kernel
theorem dX1_sumRestTo_30 : decode cX1_sumRestTo 30 = .ok (.iload_n 2, 1) := by decide +kernel
theorem dX1_sumRestTo_31 : decode cX1_sumRestTo 31 = .ok (.aload_n 0, 1) := by decide +kernel
theorem dX1_sumRestTo_32 : decode cX1_sumRestTo 32 = .ok (.getfield 15, 3) := by decide +kernel
theorem dX1_sumRestTo_35 : decode cX1_sumRestTo 35 = .ok (.iload_n 3, 1) := by decide +kernel
theorem dX1_sumRestTo_36 : decode cX1_sumRestTo 36 = .ok (.iaload, 1) := by decide +kernel
theorem dX1_sumRestTo_37 : decode cX1_sumRestTo 37 = .ok (.iadd, 1) := by decide +kernel
theorem dX1_sumRestTo_38 : decode cX1_sumRestTo 38 = .ok (.istore_n 2, 1) := by decide +kernel
theorem dX1_sumRestTo_39 : decode cX1_sumRestTo 39 = .ok (.iinc 3 1, 3) := by decide +kernel
theorem dX1_sumRestTo_42 : decode cX1_sumRestTo 42 = .ok (.goto (-38), 3) := by decide +kernel
theorem dX1_sumRestTo_45 : decode cX1_sumRestTo 45 = .ok (.iload_n 2, 1) := by decide +kernel
theorem dX1_sumRestTo_46 : decode cX1_sumRestTo 46 = .ok (.ireturn, 1) := by decide +kernel
theorem dX1_reserveAll_0 : decode cX1_reserveAll 0 = .ok (.iconst 0, 1) := by decide +kernel
theorem dX1_reserveAll_1 : decode cX1_reserveAll 1 = .ok (.istore_n 1, 1) := by decide +kernel
theorem dX1_reserveAll_2 : decode cX1_reserveAll 2 = .ok (.iconst 0, 1) := by decide +kernel
theorem dX1_reserveAll_3 : decode cX1_reserveAll 3 = .ok (.istore_n 2, 1) := by decide +kernel
theorem dX1_reserveAll_4 : decode cX1_reserveAll 4 = .ok (.iload_n 2, 1) := by decide +kernel
theorem dX1_reserveAll_5 : decode cX1_reserveAll 5 = .ok (.aload_n 0, 1) := by decide +kernel
theorem dX1_reserveAll_6 : decode cX1_reserveAll 6 = .ok (.getfield 46, 3) := by decide +kernel
theorem dX1_reserveAll_9 : decode cX1_reserveAll 9 = .ok (.if_icmp .ge 91, 3) := by decide +kernel
theorem dX1_reserveAll_12 : decode cX1_reserveAll 12 = .ok (.iconst 0, 1) := by decide +kernel
theorem dX1_reserveAll_13 : decode cX1_reserveAll 13 = .ok (.istore_n 3, 1) := by decide +kernel
theorem dX1_reserveAll_14 : decode cX1_reserveAll 14 = .ok (.iload_n 3, 1) := by decide +kernel
theorem dX1_reserveAll_15 : decode cX1_reserveAll 15 = .ok (.aload_n 0, 1) := by decide +kernel
theorem dX1_reserveAll_16 : decode cX1_reserveAll 16 = .ok (.getfield 35, 3) := by decide +kernel
theorem dX1_reserveAll_19 : decode cX1_reserveAll 19 = .ok (.if_icmp .ge 75, 3) := by decide +kernel
theorem dX1_reserveAll_22 : decode cX1_reserveAll 22 = .ok (.aload_n 0, 1) := by decide +kernel
theorem dX1_reserveAll_23 : decode cX1_reserveAll 23 = .ok (.getfield 21, 3) := by decide +kernel
theorem dX1_reserveAll_26 : decode cX1_reserveAll 26 = .ok (.iload_n 2, 1) := by decide +kernel
theorem dX1_reserveAll_27 : decode cX1_reserveAll 27 = .ok (.iload_n 3, 1) := by decide +kernel
theorem dX1_reserveAll_28 : decode cX1_reserveAll 28 = .ok (.invokestatic 49, 3) := by decide +kernel
theorem dX1_reserveAll_31 : decode cX1_reserveAll 31 = .ok (.iaload, 1) := by decide +kernel
theorem dX1_reserveAll_32 : decode cX1_reserveAll 32 = .ok (.istore 4, 2) := by decide +kernel
theorem dX1_reserveAll_34 : decode cX1_reserveAll 34 = .ok (.aload_n 0, 1) := by decide +kernel
theorem dX1_reserveAll_35 : decode cX1_reserveAll 35 = .ok (.getfield 24, 3) := by decide +kernel
theorem dX1_reserveAll_38 : decode cX1_reserveAll 38 = .ok (.aload_n 0, 1) := by decide +kernel
theorem dX1_reserveAll_39 : decode cX1_reserveAll 39 = .ok (.getfield 9, 3) := by decide +kernel
theorem dX1_reserveAll_42 : decode cX1_reserveAll 42 = .ok (.iload_n 2, 1) := by decide +kernel
theorem dX1_reserveAll_43 : decode cX1_reserveAll 43 = .ok (.iaload, 1) := by decide +kernel
theorem dX1_reserveAll_44 : decode cX1_reserveAll 44 = .ok (.aload_n 0, 1) := by decide +kernel
theorem dX1_reserveAll_45 : decode cX1_reserveAll 45 = .ok (.getfield 18, 3) := by decide +kernel
theorem dX1_reserveAll_48 : decode cX1_reserveAll 48 = .ok (.iload_n 3, 1) := by decide +kernel
theorem dX1_reserveAll_49 : decode cX1_reserveAll 49 = .ok (.iaload, 1) := by decide +kernel
theorem dX1_reserveAll_50 : decode cX1_reserveAll 50 = .ok (.invokevirtual 58, 3) := by decide +kernel
theorem dX1_reserveAll_53 : decode cX1_reserveAll 53 = .ok (.istore 5, 2) := by decide +kernel
theorem dX1_reserveAll_55 : decode cX1_reserveAll 55 = .ok (.iload_n 1, 1) := by decide +kernel
theorem dX1_reserveAll_56 : decode cX1_reserveAll 56 = .ok (.iconst 0, 1) := by decide +kernel
theorem dX1_reserveAll_57 : decode cX1_reserveAll 57 = .ok (.iload 5, 2) := by decide +kernel
theorem dX1_reserveAll_59 : decode cX1_reserveAll 59 = .ok (.iload 4, 2) := by decide +kernel
theorem dX1_reserveAll_61 : decode cX1_reserveAll 61 = .ok (.isub, 1) := by decide +kernel
theorem dX1_reserveAll_62 : decode cX1_reserveAll 62 = .ok (.invokestatic 61, 3) := by decide +kernel
theorem dX1_reserveAll_65 : decode cX1_reserveAll 65 = .ok (.iadd, 1) := by decide +kernel
theorem dX1_reserveAll_66 : decode cX1_reserveAll 66 = .ok (.istore_n 1, 1) := by decide +kernel
theorem dX1_reserveAll_67 : decode cX1_reserveAll 67 = .ok (.aload_n 0, 1) := by decide +kernel
theorem dX1_reserveAll_68 : decode cX1_reserveAll 68 = .ok (.getfield 24, 3) := by decide +kernel
theorem dX1_reserveAll_71 : decode cX1_reserveAll 71 = .ok (.aload_n 0, 1) := by decide +kernel
theorem dX1_reserveAll_72 : decode cX1_reserveAll 72 = .ok (.getfield 9, 3) := by decide +kernel
theorem dX1_reserveAll_75 : decode cX1_reserveAll 75 = .ok (.iload_n 2, 1) := by decide +kernel
theorem dX1_reserveAll_76 : decode cX1_reserveAll 76 = .ok (.iaload, 1) := by decide +kernel
theorem dX1_reserveAll_77 : decode cX1_reserveAll 77 = .ok (.aload_n 0, 1) := by decide +kernel
theorem dX1_reserveAll_78 : decode cX1_reserveAll 78 = .ok (.getfield 18, 3) := by decide +kernel
theorem dX1_reserveAll_81 : decode cX1_reserveAll 81 = .ok (.iload_n 3, 1) := by decide +kernel
theorem dX1_reserveAll_82 : decode cX1_reserveAll 82 = .ok (.iaload, 1) := by decide +kernel
theorem dX1_reserveAll_83 : decode cX1_reserveAll 83 = .ok (.iload 4, 2) := by decide +kernel
theorem dX1_reserveAll_85 : decode cX1_reserveAll 85 = .ok (.invokevirtual 66, 3) := by decide +kernel
theorem dX1_reserveAll_88 : decode cX1_reserveAll 88 = .ok (.iinc 3 1, 3) := by decide +kernel
theorem dX1_reserveAll_91 : decode cX1_reserveAll 91 = .ok (.goto (-77), 3) := by decide +kernel
theorem dX1_reserveAll_94 : decode cX1_reserveAll 94 = .ok (.iinc 2 1, 3) := by decide +kernel
theorem dX1_reserveAll_97 : decode cX1_reserveAll 97 = .ok (.goto (-93), 3) := by decide +kernel
theorem dX1_reserveAll_100 : decode cX1_reserveAll 100 = .ok (.iload_n 1, 1) := by decide +kernel
theorem dX1_reserveAll_101 : decode cX1_reserveAll 101 = .ok (.ireturn, 1) := by decide +kernel
theorem dX1_cell_0 : decode cX1_cell 0 = .ok (.iload_n 0, 1) := by decide +kernel
theorem dX1_cell_1 : decode cX1_cell 1 = .ok (.bipush 6, 2) := by decide +kernel
theorem dX1_cell_3 : decode cX1_cell 3 = .ok (.imul, 1) := by decide +kernel
theorem dX1_cell_4 : decode cX1_cell 4 = .ok (.iload_n 1, 1) := by decide +kernel
theorem dX1_cell_5 : decode cX1_cell 5 = .ok (.iadd, 1) := by decide +kernel
theorem dX1_cell_6 : decode cX1_cell 6 = .ok (.ireturn, 1) := by decide +kernel
theorem dX1_turnOf_0 : decode cX1_turnOf 0 = .ok (.iconst 0, 1) := by decide +kernel
theorem dX1_turnOf_1 : decode cX1_turnOf 1 = .ok (.istore_n 2, 1) := by decide +kernel
theorem dX1_turnOf_2 : decode cX1_turnOf 2 = .ok (.iload_n 2, 1) := by decide +kernel
theorem dX1_turnOf_3 : decode cX1_turnOf 3 = .ok (.aload_n 0, 1) := by decide +kernel
theorem dX1_turnOf_4 : decode cX1_turnOf 4 = .ok (.getfield 35, 3) := by decide +kernel
theorem dX1_turnOf_7 : decode cX1_turnOf 7 = .ok (.if_icmp .ge 21, 3) := by decide +kernel
theorem dX1_turnOf_10 : decode cX1_turnOf 10 = .ok (.aload_n 0, 1) := by decide +kernel
theorem dX1_turnOf_11 : decode cX1_turnOf 11 = .ok (.getfield 18, 3) := by decide +kernel
theorem dX1_turnOf_14 : decode cX1_turnOf 14 = .ok (.iload_n 2, 1) := by decide +kernel
theorem dX1_turnOf_15 : decode cX1_turnOf 15 = .ok (.iaload, 1) := by decide +kernel
theorem dX1_turnOf_16 : decode cX1_turnOf 16 = .ok (.iload_n 1, 1) := by decide +kernel
theorem dX1_turnOf_17 : decode cX1_turnOf 17 = .ok (.if_icmp .ne 5, 3) := by decide +kernel
theorem dX1_turnOf_20 : decode cX1_turnOf 20 = .ok (.iload_n 2, 1) := by decide +kernel
theorem dX1_turnOf_21 : decode cX1_turnOf 21 = .ok (.ireturn, 1) := by decide +kernel
theorem dX1_turnOf_22 : decode cX1_turnOf 22 = .ok (.iinc 2 1, 3) := by decide +kernel
theorem dX1_turnOf_25 : decode cX1_turnOf 25 = .ok (.goto (-23), 3) := by decide +kernel
theorem dX1_turnOf_28 : decode cX1_turnOf 28 = .ok (.iconst (-1), 1) := by decide +kernel
theorem dX1_turnOf_29 : decode cX1_turnOf 29 = .ok (.ireturn, 1) := by decide +kernel
theorem dX1_gatherLots_0 : decode cX1_gatherLots 0 = .ok (.aload_n 0, 1) := by decide +kernel
theorem dX1_gatherLots_1 : decode cX1_gatherLots 1 = .ok (.iconst 0, 1) := by decide +kernel
theorem dX1_gatherLots_2 : decode cX1_gatherLots 2 = .ok (.putfield 46, 3) := by decide +kernel
theorem dX1_gatherLots_5 : decode cX1_gatherLots 5 = .ok (.iconst 0, 1) := by decide +kernel
theorem dX1_gatherLots_6 : decode cX1_gatherLots 6 = .ok (.istore_n 2, 1) := by decide +kernel
theorem dX1_gatherLots_7 : decode cX1_gatherLots 7 = .ok (.iload_n 2, 1) := by decide +kernel
theorem dX1_gatherLots_8 : decode cX1_gatherLots 8 = .ok (.aload_n 0, 1) := by decide +kernel
theorem dX1_gatherLots_9 : decode cX1_gatherLots 9 = .ok (.getfield 24, 3) := by decide +kernel
theorem dX1_gatherLots_12 : decode cX1_gatherLots 12 = .ok (.getfield 70, 3) := by decide +kernel
theorem dX1_gatherLots_15 : decode cX1_gatherLots 15 = .ok (.if_icmp .ge 27, 3) := by decide +kernel
theorem dX1_gatherLots_18 : decode cX1_gatherLots 18 = .ok (.aload_n 0, 1) := by decide +kernel
theorem dX1_gatherLots_19 : decode cX1_gatherLots 19 = .ok (.getfield 24, 3) := by decide +kernel
theorem dX1_gatherLots_22 : decode cX1_gatherLots 22 = .ok (.getfield 71, 3) := by decide +kernel
theorem dX1_gatherLots_25 : decode cX1_gatherLots 25 = .ok (.iload_n 2, 1) := by decide +kernel
theorem dX1_gatherLots_26 : decode cX1_gatherLots 26 = .ok (.iaload, 1) := by decide +kernel
theorem dX1_gatherLots_27 : decode cX1_gatherLots 27 = .ok (.iload_n 1, 1) := by decide +kernel
theorem dX1_gatherLots_28 : decode cX1_gatherLots 28 = .ok (.if_icmp .ne 8, 3) := by decide +kernel
theorem dX1_gatherLots_31 : decode cX1_gatherLots 31 = .ok (.aload_n 0, 1) := by decide +kernel
theorem dX1_gatherLots_32 : decode cX1_gatherLots 32 = .ok (.iload_n 2, 1) := by decide +kernel
theorem dX1_gatherLots_33 : decode cX1_gatherLots 33 = .ok (.invokevirtual 74, 3) := by decide +kernel
theorem dX1_gatherLots_36 : decode cX1_gatherLots 36 = .ok (.iinc 2 1, 3) := by decide +kernel
theorem dX1_gatherLots_39 : decode cX1_gatherLots 39 = .ok (.goto (-32), 3) := by decide +kernel
theorem dX1_gatherLots_42 : decode cX1_gatherLots 42 = .ok (.iconst 0, 1) := by decide +kernel
theorem dX1_gatherLots_43 : decode cX1_gatherLots 43 = .ok (.istore_n 2, 1) := by decide +kernel
theorem dX1_gatherLots_44 : decode cX1_gatherLots 44 = .ok (.iload_n 2, 1) := by decide +kernel
theorem dX1_gatherLots_45 : decode cX1_gatherLots 45 = .ok (.aload_n 0, 1) := by decide +kernel
theorem dX1_gatherLots_46 : decode cX1_gatherLots 46 = .ok (.getfield 46, 3) := by decide +kernel
theorem dX1_gatherLots_49 : decode cX1_gatherLots 49 = .ok (.if_icmp .ge 29, 3) := by decide +kernel
theorem dX1_gatherLots_52 : decode cX1_gatherLots 52 = .ok (.aload_n 0, 1) := by decide +kernel
theorem dX1_gatherLots_53 : decode cX1_gatherLots 53 = .ok (.getfield 15, 3) := by decide +kernel
theorem dX1_gatherLots_56 : decode cX1_gatherLots 56 = .ok (.iload_n 2, 1) := by decide +kernel
theorem dX1_gatherLots_57 : decode cX1_gatherLots 57 = .ok (.aload_n 0, 1) := by decide +kernel
theorem dX1_gatherLots_58 : decode cX1_gatherLots 58 = .ok (.getfield 24, 3) := by decide +kernel
theorem dX1_gatherLots_61 : decode cX1_gatherLots 61 = .ok (.getfield 77, 3) := by decide +kernel
theorem dX1_gatherLots_64 : decode cX1_gatherLots 64 = .ok (.aload_n 0, 1) := by decide +kernel
theorem dX1_gatherLots_65 : decode cX1_gatherLots 65 = .ok (.getfield 9, 3) := by decide +kernel
theorem dX1_gatherLots_68 : decode cX1_gatherLots 68 = .ok (.iload_n 2, 1) := by decide +kernel
theorem dX1_gatherLots_69 : decode cX1_gatherLots 69 = .ok (.iaload, 1) := by decide +kernel
theorem dX1_gatherLots_70 : decode cX1_gatherLots 70 = .ok (.iaload, 1) := by decide +kernel
theorem dX1_gatherLots_71 : decode cX1_gatherLots 71 = .ok (.iastore, 1) := by decide +kernel
theorem dX1_gatherLots_72 : decode cX1_gatherLots 72 = .ok (.iinc 2 1, 3) := by decide +kernel
theorem dX1_gatherLots_75 : decode cX1_gatherLots 75 = .ok (.goto (-31), 3) := by decide +kernel
theorem dX1_gatherLots_78 : decode cX1_gatherLots 78 = .ok (.return_, 1) := by decide +kernel
theorem dX1_insertLot_0 : decode cX1_insertLot 0 = .ok (.aload_n 0, 1) := by decide +kernel
theorem dX1_insertLot_1 : decode cX1_insertLot 1 = .ok (.getfield 46, 3) := by decide +kernel
theorem dX1_insertLot_4 : decode cX1_insertLot 4 = .ok (.istore_n 2, 1) := by decide +kernel
theorem dX1_insertLot_5 : decode cX1_insertLot 5 = .ok (.iload_n 2, 1) := by decide +kernel
theorem dX1_insertLot_6 : decode cX1_insertLot 6 = .ok (.ifCond .le 51, 3) := by decide +kernel
theorem dX1_insertLot_9 : decode cX1_insertLot 9 = .ok (.aload_n 0, 1) := by decide +kernel
theorem dX1_insertLot_10 : decode cX1_insertLot 10 = .ok (.getfield 24, 3) := by decide +kernel
theorem dX1_insertLot_13 : decode cX1_insertLot 13 = .ok (.getfield 53, 3) := by decide +kernel
theorem dX1_insertLot_16 : decode cX1_insertLot 16 = .ok (.aload_n 0, 1) := by decide +kernel
theorem dX1_insertLot_17 : decode cX1_insertLot 17 = .ok (.getfield 9, 3) := by decide +kernel
theorem dX1_insertLot_20 : decode cX1_insertLot 20 = .ok (.iload_n 2, 1) := by decide +kernel
theorem dX1_insertLot_21 : decode cX1_insertLot 21 = .ok (.iconst 1, 1) := by decide +kernel
theorem dX1_insertLot_22 : decode cX1_insertLot 22 = .ok (.isub, 1) := by decide +kernel
theorem dX1_insertLot_23 : decode cX1_insertLot 23 = .ok (.iaload, 1) := by decide +kernel
theorem dX1_insertLot_24 : decode cX1_insertLot 24 = .ok (.iaload, 1) := by decide +kernel
theorem dX1_insertLot_25 : decode cX1_insertLot 25 = .ok (.aload_n 0, 1) := by decide +kernel
theorem dX1_insertLot_26 : decode cX1_insertLot 26 = .ok (.getfield 24, 3) := by decide +kernel
theorem dX1_insertLot_29 : decode cX1_insertLot 29 = .ok (.getfield 53, 3) := by decide +kernel
theorem dX1_insertLot_32 : decode cX1_insertLot 32 = .ok (.iload_n 1, 1) := by decide +kernel
theorem dX1_insertLot_33 : decode cX1_insertLot 33 = .ok (.iaload, 1) := by decide +kernel
theorem dX1_insertLot_34 : decode cX1_insertLot 34 = .ok (.if_icmp .le 23, 3) := by decide +kernel
theorem dX1_insertLot_37 : decode cX1_insertLot 37 = .ok (.aload_n 0, 1) := by decide +kernel
theorem dX1_insertLot_38 : decode cX1_insertLot 38 = .ok (.getfield 9, 3) := by decide +kernel
theorem dX1_insertLot_41 : decode cX1_insertLot 41 = .ok (.iload_n 2, 1) := by decide +kernel
theorem dX1_insertLot_42 : decode cX1_insertLot 42 = .ok (.aload_n 0, 1) := by decide +kernel
theorem dX1_insertLot_43 : decode cX1_insertLot 43 = .ok (.getfield 9, 3) := by decide +kernel
theorem dX1_insertLot_46 : decode cX1_insertLot 46 = .ok (.iload_n 2, 1) := by decide +kernel
theorem dX1_insertLot_47 : decode cX1_insertLot 47 = .ok (.iconst 1, 1) := by decide +kernel
theorem dX1_insertLot_48 : decode cX1_insertLot 48 = .ok (.isub, 1) := by decide +kernel
theorem dX1_insertLot_49 : decode cX1_insertLot 49 = .ok (.iaload, 1) := by decide +kernel
theorem dX1_insertLot_50 : decode cX1_insertLot 50 = .ok (.iastore, 1) := by decide +kernel
theorem dX1_insertLot_51 : decode cX1_insertLot 51 = .ok (.iinc 2 (-1), 3) := by decide +kernel
theorem dX1_insertLot_54 : decode cX1_insertLot 54 = .ok (.goto (-49), 3) := by decide +kernel
theorem dX1_insertLot_57 : decode cX1_insertLot 57 = .ok (.aload_n 0, 1) := by decide +kernel
theorem dX1_insertLot_58 : decode cX1_insertLot 58 = .ok (.getfield 9, 3) := by decide +kernel
theorem dX1_insertLot_61 : decode cX1_insertLot 61 = .ok (.iload_n 2, 1) := by decide +kernel
theorem dX1_insertLot_62 : decode cX1_insertLot 62 = .ok (.iload_n 1, 1) := by decide +kernel
theorem dX1_insertLot_63 : decode cX1_insertLot 63 = .ok (.iastore, 1) := by decide +kernel
theorem dX1_insertLot_64 : decode cX1_insertLot 64 = .ok (.aload_n 0, 1) := by decide +kernel
theorem dX1_insertLot_65 : decode cX1_insertLot 65 = .ok (.dup, 1) := by decide +kernel
theorem dX1_insertLot_66 : decode cX1_insertLot 66 = .ok (.getfield 46, 3) := by decide +kernel
theorem dX1_insertLot_69 : decode cX1_insertLot 69 = .ok (.iconst 1, 1) := by decide +kernel
theorem dX1_insertLot_70 : decode cX1_insertLot 70 = .ok (.iadd, 1) := by decide +kernel
theorem dX1_insertLot_71 : decode cX1_insertLot 71 = .ok (.putfield 46, 3) := by decide +kernel
theorem dX1_insertLot_74 : decode cX1_insertLot 74 = .ok (.return_, 1) := by decide +kernel
theorem dX1_gatherOrders_0 : decode cX1_gatherOrders 0 = .ok (.aload_n 0, 1) := by decide +kernel
theorem dX1_gatherOrders_1 : decode cX1_gatherOrders 1 = .ok (.iconst 0, 1) := by decide +kernel
theorem dX1_gatherOrders_2 : decode cX1_gatherOrders 2 = .ok (.putfield 35, 3) := by decide +kernel
theorem dX1_gatherOrders_5 : decode cX1_gatherOrders 5 = .ok (.iconst 0, 1) := by decide +kernel
theorem dX1_gatherOrders_6 : decode cX1_gatherOrders 6 = .ok (.istore_n 2, 1) := by decide +kernel
theorem dX1_gatherOrders_7 : decode cX1_gatherOrders 7 = .ok (.iload_n 2, 1) := by decide +kernel
theorem dX1_gatherOrders_8 : decode cX1_gatherOrders 8 = .ok (.aload_n 0, 1) := by decide +kernel
theorem dX1_gatherOrders_9 : decode cX1_gatherOrders 9 = .ok (.getfield 24, 3) := by decide +kernel
theorem dX1_gatherOrders_12 : decode cX1_gatherOrders 12 = .ok (.getfield 80, 3) := by decide +kernel
theorem dX1_gatherOrders_15 : decode cX1_gatherOrders 15 = .ok (.if_icmp .ge 47, 3) := by decide +kernel
theorem dX1_gatherOrders_18 : decode cX1_gatherOrders 18 = .ok (.aload_n 0, 1) := by decide +kernel
theorem dX1_gatherOrders_19 : decode cX1_gatherOrders 19 = .ok (.getfield 24, 3) := by decide +kernel
theorem dX1_gatherOrders_22 : decode cX1_gatherOrders 22 = .ok (.getfield 81, 3) := by decide +kernel
theorem dX1_gatherOrders_25 : decode cX1_gatherOrders 25 = .ok (.iload_n 2, 1) := by decide +kernel
theorem dX1_gatherOrders_26 : decode cX1_gatherOrders 26 = .ok (.iaload, 1) := by decide +kernel
theorem dX1_gatherOrders_27 : decode cX1_gatherOrders 27 = .ok (.iload_n 1, 1) := by decide +kernel
theorem dX1_gatherOrders_28 : decode cX1_gatherOrders 28 = .ok (.if_icmp .ne 28, 3) := by decide +kernel
theorem dX1_gatherOrders_31 : decode cX1_gatherOrders 31 = .ok (.aload_n 0, 1) := by decide +kernel
theorem dX1_gatherOrders_32 : decode cX1_gatherOrders 32 = .ok (.getfield 24, 3) := by decide +kernel
theorem dX1_gatherOrders_35 : decode cX1_gatherOrders 35 = .ok (.iload_n 2, 1) := by decide +kernel
theorem dX1_gatherOrders_36 : decode cX1_gatherOrders 36 = .ok (.invokevirtual 84, 3) := by decide +kernel
theorem dX1_gatherOrders_39 : decode cX1_gatherOrders 39 = .ok (.ifCond .eq 17, 3) := by decide +kernel
theorem dX1_gatherOrders_42 : decode cX1_gatherOrders 42 = .ok (.aload_n 0, 1) := by decide +kernel
theorem dX1_gatherOrders_43 : decode cX1_gatherOrders 43 = .ok (.getfield 35, 3) := by decide +kernel
theorem dX1_gatherOrders_46 : decode cX1_gatherOrders 46 = .ok (.bipush 6, 2) := by decide +kernel
theorem dX1_gatherOrders_48 : decode cX1_gatherOrders 48 = .ok (.if_icmp .ge 8, 3) := by decide +kernel
theorem dX1_gatherOrders_51 : decode cX1_gatherOrders 51 = .ok (.aload_n 0, 1) := by decide +kernel
theorem dX1_gatherOrders_52 : decode cX1_gatherOrders 52 = .ok (.iload_n 2, 1) := by decide +kernel
theorem dX1_gatherOrders_53 : decode cX1_gatherOrders 53 = .ok (.invokevirtual 88, 3) := by decide +kernel
theorem dX1_gatherOrders_56 : decode cX1_gatherOrders 56 = .ok (.iinc 2 1, 3) := by decide +kernel
theorem dX1_gatherOrders_59 : decode cX1_gatherOrders 59 = .ok (.goto (-52), 3) := by decide +kernel
theorem dX1_gatherOrders_62 : decode cX1_gatherOrders 62 = .ok (.return_, 1) := by decide +kernel
theorem dX1_insertOrder_0 : decode cX1_insertOrder 0 = .ok (.aload_n 0, 1) := by decide +kernel
theorem dX1_insertOrder_1 : decode cX1_insertOrder 1 = .ok (.getfield 35, 3) := by decide +kernel
theorem dX1_insertOrder_4 : decode cX1_insertOrder 4 = .ok (.istore_n 2, 1) := by decide +kernel
theorem dX1_insertOrder_5 : decode cX1_insertOrder 5 = .ok (.iload_n 2, 1) := by decide +kernel
theorem dX1_insertOrder_6 : decode cX1_insertOrder 6 = .ok (.ifCond .le 51, 3) := by decide +kernel
theorem dX1_insertOrder_9 : decode cX1_insertOrder 9 = .ok (.aload_n 0, 1) := by decide +kernel
theorem dX1_insertOrder_10 : decode cX1_insertOrder 10 = .ok (.getfield 24, 3) := by decide +kernel
theorem dX1_insertOrder_13 : decode cX1_insertOrder 13 = .ok (.getfield 91, 3) := by decide +kernel
theorem dX1_insertOrder_16 : decode cX1_insertOrder 16 = .ok (.aload_n 0, 1) := by decide +kernel
theorem dX1_insertOrder_17 : decode cX1_insertOrder 17 = .ok (.getfield 18, 3) := by decide +kernel
theorem dX1_insertOrder_20 : decode cX1_insertOrder 20 = .ok (.iload_n 2, 1) := by decide +kernel
theorem dX1_insertOrder_21 : decode cX1_insertOrder 21 = .ok (.iconst 1, 1) := by decide +kernel
theorem dX1_insertOrder_22 : decode cX1_insertOrder 22 = .ok (.isub, 1) := by decide +kernel
theorem dX1_insertOrder_23 : decode cX1_insertOrder 23 = .ok (.iaload, 1) := by decide +kernel
theorem dX1_insertOrder_24 : decode cX1_insertOrder 24 = .ok (.iaload, 1) := by decide +kernel
theorem dX1_insertOrder_25 : decode cX1_insertOrder 25 = .ok (.aload_n 0, 1) := by decide +kernel
theorem dX1_insertOrder_26 : decode cX1_insertOrder 26 = .ok (.getfield 24, 3) := by decide +kernel
theorem dX1_insertOrder_29 : decode cX1_insertOrder 29 = .ok (.getfield 91, 3) := by decide +kernel
theorem dX1_insertOrder_32 : decode cX1_insertOrder 32 = .ok (.iload_n 1, 1) := by decide +kernel
theorem dX1_insertOrder_33 : decode cX1_insertOrder 33 = .ok (.iaload, 1) := by decide +kernel
theorem dX1_insertOrder_34 : decode cX1_insertOrder 34 = .ok (.if_icmp .le 23, 3) := by decide +kernel
theorem dX1_insertOrder_37 : decode cX1_insertOrder 37 = .ok (.aload_n 0, 1) := by decide +kernel
theorem dX1_insertOrder_38 : decode cX1_insertOrder 38 = .ok (.getfield 18, 3) := by decide +kernel
theorem dX1_insertOrder_41 : decode cX1_insertOrder 41 = .ok (.iload_n 2, 1) := by decide +kernel
theorem dX1_insertOrder_42 : decode cX1_insertOrder 42 = .ok (.aload_n 0, 1) := by decide +kernel
theorem dX1_insertOrder_43 : decode cX1_insertOrder 43 = .ok (.getfield 18, 3) := by decide +kernel
theorem dX1_insertOrder_46 : decode cX1_insertOrder 46 = .ok (.iload_n 2, 1) := by decide +kernel
theorem dX1_insertOrder_47 : decode cX1_insertOrder 47 = .ok (.iconst 1, 1) := by decide +kernel
theorem dX1_insertOrder_48 : decode cX1_insertOrder 48 = .ok (.isub, 1) := by decide +kernel
theorem dX1_insertOrder_49 : decode cX1_insertOrder 49 = .ok (.iaload, 1) := by decide +kernel
theorem dX1_insertOrder_50 : decode cX1_insertOrder 50 = .ok (.iastore, 1) := by decide +kernel
theorem dX1_insertOrder_51 : decode cX1_insertOrder 51 = .ok (.iinc 2 (-1), 3) := by decide +kernel
theorem dX1_insertOrder_54 : decode cX1_insertOrder 54 = .ok (.goto (-49), 3) := by decide +kernel
theorem dX1_insertOrder_57 : decode cX1_insertOrder 57 = .ok (.aload_n 0, 1) := by decide +kernel
theorem dX1_insertOrder_58 : decode cX1_insertOrder 58 = .ok (.getfield 18, 3) := by decide +kernel
theorem dX1_insertOrder_61 : decode cX1_insertOrder 61 = .ok (.iload_n 2, 1) := by decide +kernel
theorem dX1_insertOrder_62 : decode cX1_insertOrder 62 = .ok (.iload_n 1, 1) := by decide +kernel
theorem dX1_insertOrder_63 : decode cX1_insertOrder 63 = .ok (.iastore, 1) := by decide +kernel
theorem dX1_insertOrder_64 : decode cX1_insertOrder 64 = .ok (.aload_n 0, 1) := by decide +kernel
theorem dX1_insertOrder_65 : decode cX1_insertOrder 65 = .ok (.dup, 1) := by decide +kernel
theorem dX1_insertOrder_66 : decode cX1_insertOrder 66 = .ok (.getfield 35, 3) := by decide +kernel
theorem dX1_insertOrder_69 : decode cX1_insertOrder 69 = .ok (.iconst 1, 1) := by decide +kernel
theorem dX1_insertOrder_70 : decode cX1_insertOrder 70 = .ok (.iadd, 1) := by decide +kernel
theorem dX1_insertOrder_71 : decode cX1_insertOrder 71 = .ok (.putfield 35, 3) := by decide +kernel
theorem dX1_insertOrder_74 : decode cX1_insertOrder 74 = .ok (.return_, 1) := by decide +kernel
theorem dX1_serve_0 : decode cX1_serve 0 = .ok (.aload_n 0, 1) := by decide +kernel
theorem dX1_serve_1 : decode cX1_serve 1 = .ok (.getfield 18, 3) := by decide +kernel
theorem dX1_serve_4 : decode cX1_serve 4 = .ok (.iload_n 1, 1) := by decide +kernel
theorem dX1_serve_5 : decode cX1_serve 5 = .ok (.iaload, 1) := by decide +kernel
theorem dX1_serve_6 : decode cX1_serve 6 = .ok (.istore_n 2, 1) := by decide +kernel
theorem dX1_serve_7 : decode cX1_serve 7 = .ok (.aload_n 0, 1) := by decide +kernel
theorem dX1_serve_8 : decode cX1_serve 8 = .ok (.getfield 24, 3) := by decide +kernel
theorem dX1_serve_11 : decode cX1_serve 11 = .ok (.getfield 94, 3) := by decide +kernel
theorem dX1_serve_14 : decode cX1_serve 14 = .ok (.iload_n 2, 1) := by decide +kernel
theorem dX1_serve_15 : decode cX1_serve 15 = .ok (.iaload, 1) := by decide +kernel
theorem dX1_serve_16 : decode cX1_serve 16 = .ok (.istore_n 3, 1) := by decide +kernel
theorem dX1_serve_17 : decode cX1_serve 17 = .ok (.iconst 0, 1) := by decide +kernel
theorem dX1_serve_18 : decode cX1_serve 18 = .ok (.istore 4, 2) := by decide +kernel
theorem dX1_serve_20 : decode cX1_serve 20 = .ok (.iload 4, 2) := by decide +kernel
theorem dX1_serve_22 : decode cX1_serve 22 = .ok (.aload_n 0, 1) := by decide +kernel
theorem dX1_serve_23 : decode cX1_serve 23 = .ok (.getfield 46, 3) := by decide +kernel
theorem dX1_serve_26 : decode cX1_serve 26 = .ok (.if_icmp .ge 74, 3) := by decide +kernel
theorem dX1_serve_29 : decode cX1_serve 29 = .ok (.aload_n 0, 1) := by decide +kernel
theorem dX1_serve_30 : decode cX1_serve 30 = .ok (.getfield 24, 3) := by decide +kernel
theorem dX1_serve_33 : decode cX1_serve 33 = .ok (.aload_n 0, 1) := by decide +kernel
theorem dX1_serve_34 : decode cX1_serve 34 = .ok (.getfield 9, 3) := by decide +kernel
theorem dX1_serve_37 : decode cX1_serve 37 = .ok (.iload 4, 2) := by decide +kernel
theorem dX1_serve_39 : decode cX1_serve 39 = .ok (.iaload, 1) := by decide +kernel
theorem dX1_serve_40 : decode cX1_serve 40 = .ok (.iload_n 2, 1) := by decide +kernel
theorem dX1_serve_41 : decode cX1_serve 41 = .ok (.invokevirtual 97, 3) := by decide +kernel
theorem dX1_serve_44 : decode cX1_serve 44 = .ok (.ifCond .eq 17, 3) := by decide +kernel
theorem dX1_serve_47 : decode cX1_serve 47 = .ok (.iload_n 3, 1) := by decide +kernel
theorem dX1_serve_48 : decode cX1_serve 48 = .ok (.aload_n 0, 1) := by decide +kernel
theorem dX1_serve_49 : decode cX1_serve 49 = .ok (.getfield 15, 3) := by decide +kernel
theorem dX1_serve_52 : decode cX1_serve 52 = .ok (.iload 4, 2) := by decide +kernel
theorem dX1_serve_54 : decode cX1_serve 54 = .ok (.iaload, 1) := by decide +kernel
theorem dX1_serve_55 : decode cX1_serve 55 = .ok (.invokestatic 101, 3) := by decide +kernel
theorem dX1_serve_58 : decode cX1_serve 58 = .ok (.goto 4, 3) := by decide +kernel
theorem dX1_serve_61 : decode cX1_serve 61 = .ok (.iconst 0, 1) := by decide +kernel
theorem dX1_serve_62 : decode cX1_serve 62 = .ok (.istore 5, 2) := by decide +kernel
theorem dX1_serve_64 : decode cX1_serve 64 = .ok (.aload_n 0, 1) := by decide +kernel
theorem dX1_serve_65 : decode cX1_serve 65 = .ok (.getfield 21, 3) := by decide +kernel
theorem dX1_serve_68 : decode cX1_serve 68 = .ok (.iload 4, 2) := by decide +kernel
theorem dX1_serve_70 : decode cX1_serve 70 = .ok (.iload_n 1, 1) := by decide +kernel
theorem dX1_serve_71 : decode cX1_serve 71 = .ok (.invokestatic 49, 3) := by decide +kernel
theorem dX1_serve_74 : decode cX1_serve 74 = .ok (.iload 5, 2) := by decide +kernel
theorem dX1_serve_76 : decode cX1_serve 76 = .ok (.iastore, 1) := by decide +kernel
theorem dX1_serve_77 : decode cX1_serve 77 = .ok (.aload_n 0, 1) := by decide +kernel
theorem dX1_serve_78 : decode cX1_serve 78 = .ok (.getfield 15, 3) := by decide +kernel
theorem dX1_serve_81 : decode cX1_serve 81 = .ok (.iload 4, 2) := by decide +kernel
theorem dX1_serve_83 : decode cX1_serve 83 = .ok (.dup2, 1) := by decide +kernel
theorem dX1_serve_84 : decode cX1_serve 84 = .ok (.iaload, 1) := by decide +kernel
theorem dX1_serve_85 : decode cX1_serve 85 = .ok (.iload 5, 2) := by decide +kernel
theorem dX1_serve_87 : decode cX1_serve 87 = .ok (.isub, 1) := by decide +kernel
theorem dX1_serve_88 : decode cX1_serve 88 = .ok (.iastore, 1) := by decide +kernel
theorem dX1_serve_89 : decode cX1_serve 89 = .ok (.iload_n 3, 1) := by decide +kernel
theorem dX1_serve_90 : decode cX1_serve 90 = .ok (.iload 5, 2) := by decide +kernel
theorem dX1_serve_92 : decode cX1_serve 92 = .ok (.isub, 1) := by decide +kernel
theorem dX1_serve_93 : decode cX1_serve 93 = .ok (.istore_n 3, 1) := by decide +kernel
theorem dX1_serve_94 : decode cX1_serve 94 = .ok (.iinc 4 1, 3) := by decide +kernel
theorem dX1_serve_97 : decode cX1_serve 97 = .ok (.goto (-77), 3) := by decide +kernel
theorem dX1_serve_100 : decode cX1_serve 100 = .ok (.return_, 1) := by decide +kernel
theorem dX2_init_0 : decode cX2_init 0 = .ok (.aload_n 0, 1) := by decide +kernel
theorem dX2_init_1 : decode cX2_init 1 = .ok (.invokespecial 3, 3) := by decide +kernel
theorem dX2_init_4 : decode cX2_init 4 = .ok (.aload_n 0, 1) := by decide +kernel
theorem dX2_init_5 : decode cX2_init 5 = .ok (.bipush 6, 2) := by decide +kernel
theorem dX2_init_7 : decode cX2_init 7 = .ok (.newarray .int, 2) := by decide +kernel
theorem dX2_init_9 : decode cX2_init 9 = .ok (.putfield 9, 3) := by decide +kernel
theorem dX2_init_12 : decode cX2_init 12 = .ok (.aload_n 0, 1) := by decide +kernel
theorem dX2_init_13 : decode cX2_init 13 = .ok (.bipush 24, 2) := by decide +kernel
theorem dX2_init_15 : decode cX2_init 15 = .ok (.newarray .int, 2) := by decide +kernel
theorem dX2_init_17 : decode cX2_init 17 = .ok (.putfield 15, 3) := by decide +kernel
theorem dX2_init_20 : decode cX2_init 20 = .ok (.aload_n 0, 1) := by decide +kernel
theorem dX2_init_21 : decode cX2_init 21 = .ok (.bipush 24, 2) := by decide +kernel
theorem dX2_init_23 : decode cX2_init 23 = .ok (.newarray .int, 2) := by decide +kernel
theorem dX2_init_25 : decode cX2_init 25 = .ok (.putfield 18, 3) := by decide +kernel
theorem dX2_init_28 : decode cX2_init 28 = .ok (.aload_n 0, 1) := by decide +kernel
theorem dX2_init_29 : decode cX2_init 29 = .ok (.bipush 24, 2) := by decide +kernel
theorem dX2_init_31 : decode cX2_init 31 = .ok (.newarray .int, 2) := by decide +kernel
theorem dX2_init_33 : decode cX2_init 33 = .ok (.putfield 21, 3) := by decide +kernel
theorem dX2_init_36 : decode cX2_init 36 = .ok (.aload_n 0, 1) := by decide +kernel
theorem dX2_init_37 : decode cX2_init 37 = .ok (.bipush 24, 2) := by decide +kernel
theorem dX2_init_39 : decode cX2_init 39 = .ok (.newarray .int, 2) := by decide +kernel
theorem dX2_init_41 : decode cX2_init 41 = .ok (.putfield 24, 3) := by decide +kernel
theorem dX2_init_44 : decode cX2_init 44 = .ok (.aload_n 0, 1) := by decide +kernel
theorem dX2_init_45 : decode cX2_init 45 = .ok (.bipush 24, 2) := by decide +kernel
theorem dX2_init_47 : decode cX2_init 47 = .ok (.newarray .int, 2) := by decide +kernel
theorem dX2_init_49 : decode cX2_init 49 = .ok (.putfield 27, 3) := by decide +kernel
theorem dX2_init_52 : decode cX2_init 52 = .ok (.aload_n 0, 1) := by decide +kernel
theorem dX2_init_53 : decode cX2_init 53 = .ok (.bipush 41, 2) := by decide +kernel
theorem dX2_init_55 : decode cX2_init 55 = .ok (.newarray .int, 2) := by decide +kernel
theorem dX2_init_57 : decode cX2_init 57 = .ok (.putfield 30, 3) := by decide +kernel
theorem dX2_init_60 : decode cX2_init 60 = .ok (.aload_n 0, 1) := by decide +kernel
theorem dX2_init_61 : decode cX2_init 61 = .ok (.bipush 41, 2) := by decide +kernel
theorem dX2_init_63 : decode cX2_init 63 = .ok (.newarray .int, 2) := by decide +kernel
theorem dX2_init_65 : decode cX2_init 65 = .ok (.putfield 33, 3) := by decide +kernel
theorem dX2_init_68 : decode cX2_init 68 = .ok (.aload_n 0, 1) := by decide +kernel
theorem dX2_init_69 : decode cX2_init 69 = .ok (.bipush 41, 2) := by decide +kernel
theorem dX2_init_71 : decode cX2_init 71 = .ok (.newarray .int, 2) := by decide +kernel
theorem dX2_init_73 : decode cX2_init 73 = .ok (.putfield 36, 3) := by decide +kernel
theorem dX2_init_76 : decode cX2_init 76 = .ok (.aload_n 0, 1) := by decide +kernel
theorem dX2_init_77 : decode cX2_init 77 = .ok (.bipush 41, 2) := by decide +kernel
theorem dX2_init_79 : decode cX2_init 79 = .ok (.newarray .int, 2) := by decide +kernel
theorem dX2_init_81 : decode cX2_init 81 = .ok (.putfield 39, 3) := by decide +kernel
theorem dX2_init_84 : decode cX2_init 84 = .ok (.aload_n 0, 1) := by decide +kernel
theorem dX2_init_85 : decode cX2_init 85 = .ok (.bipush 41, 2) := by decide +kernel
theorem dX2_init_87 : decode cX2_init 87 = .ok (.newarray .int, 2) := by decide +kernel
theorem dX2_init_89 : decode cX2_init 89 = .ok (.putfield 42, 3) := by decide +kernel
theorem dX2_init_92 : decode cX2_init 92 = .ok (.aload_n 0, 1) := by decide +kernel
theorem dX2_init_93 : decode cX2_init 93 = .ok (.bipush 41, 2) := by decide +kernel
theorem dX2_init_95 : decode cX2_init 95 = .ok (.newarray .int, 2) := by decide +kernel
theorem dX2_init_97 : decode cX2_init 97 = .ok (.putfield 45, 3) := by decide +kernel
theorem dX2_init_100 : decode cX2_init 100 = .ok (.aload_n 0, 1) := by decide +kernel
theorem dX2_init_101 : decode cX2_init 101 = .ok (.sipush 144, 3) := by decide +kernel
theorem dX2_init_104 : decode cX2_init 104 = .ok (.newarray .int, 2) := by decide +kernel
theorem dX2_init_106 : decode cX2_init 106 = .ok (.putfield 48, 3) := by decide +kernel
theorem dX2_init_109 : decode cX2_init 109 = .ok (.return_, 1) := by decide +kernel
theorem dX2_clear_0 : decode cX2_clear 0 = .ok (.aload_n 0, 1) := by decide +kernel
theorem dX2_clear_1 : decode cX2_clear 1 = .ok (.iconst 0, 1) := by decide +kernel
theorem dX2_clear_2 : decode cX2_clear 2 = .ok (.putfield 51, 3) := by decide +kernel
theorem dX2_clear_5 : decode cX2_clear 5 = .ok (.aload_n 0, 1) := by decide +kernel
theorem dX2_clear_6 : decode cX2_clear 6 = .ok (.iconst 0, 1) := by decide +kernel
theorem dX2_clear_7 : decode cX2_clear 7 = .ok (.putfield 55, 3) := by decide +kernel
theorem dX2_clear_10 : decode cX2_clear 10 = .ok (.aload_n 0, 1) := by decide +kernel
theorem dX2_clear_11 : decode cX2_clear 11 = .ok (.iconst 0, 1) := by decide +kernel
theorem dX2_clear_12 : decode cX2_clear 12 = .ok (.putfield 58, 3) := by decide +kernel
theorem dX2_clear_15 : decode cX2_clear 15 = .ok (.aload_n 0, 1) := by decide +kernel
theorem dX2_clear_16 : decode cX2_clear 16 = .ok (.iconst 0, 1) := by decide +kernel
theorem dX2_clear_17 : decode cX2_clear 17 = .ok (.putfield 61, 3) := by decide +kernel
theorem dX2_clear_20 : decode cX2_clear 20 = .ok (.aload_n 0, 1) := by decide +kernel
theorem dX2_clear_21 : decode cX2_clear 21 = .ok (.iconst 0, 1) := by decide +kernel
theorem dX2_clear_22 : decode cX2_clear 22 = .ok (.putfield 64, 3) := by decide +kernel
theorem dX2_clear_25 : decode cX2_clear 25 = .ok (.aload_n 0, 1) := by decide +kernel
theorem dX2_clear_26 : decode cX2_clear 26 = .ok (.iconst 0, 1) := by decide +kernel
theorem dX2_clear_27 : decode cX2_clear 27 = .ok (.putfield 67, 3) := by decide +kernel
theorem dX2_clear_30 : decode cX2_clear 30 = .ok (.aload_n 0, 1) := by decide +kernel
theorem dX2_clear_31 : decode cX2_clear 31 = .ok (.iconst 0, 1) := by decide +kernel
theorem dX2_clear_32 : decode cX2_clear 32 = .ok (.putfield 70, 3) := by decide +kernel
theorem dX2_clear_35 : decode cX2_clear 35 = .ok (.iconst 0, 1) := by decide +kernel
theorem dX2_clear_36 : decode cX2_clear 36 = .ok (.istore_n 1, 1) := by decide +kernel
theorem dX2_clear_37 : decode cX2_clear 37 = .ok (.iload_n 1, 1) := by decide +kernel
theorem dX2_clear_38 : decode cX2_clear 38 = .ok (.aload_n 0, 1) := by decide +kernel
theorem dX2_clear_39 : decode cX2_clear 39 = .ok (.getfield 15, 3) := by decide +kernel
theorem dX2_clear_42 : decode cX2_clear 42 = .ok (.arraylength, 1) := by decide +kernel
theorem dX2_clear_43 : decode cX2_clear 43 = .ok (.if_icmp .ge 16, 3) := by decide +kernel
theorem dX2_clear_46 : decode cX2_clear 46 = .ok (.aload_n 0, 1) := by decide +kernel
theorem dX2_clear_47 : decode cX2_clear 47 = .ok (.getfield 15, 3) := by decide +kernel
theorem dX2_clear_50 : decode cX2_clear 50 = .ok (.iload_n 1, 1) := by decide +kernel
theorem dX2_clear_51 : decode cX2_clear 51 = .ok (.iconst (-1), 1) := by decide +kernel
theorem dX2_clear_52 : decode cX2_clear 52 = .ok (.iastore, 1) := by decide +kernel
theorem dX2_clear_53 : decode cX2_clear 53 = .ok (.iinc 1 1, 3) := by decide +kernel
theorem dX2_clear_56 : decode cX2_clear 56 = .ok (.goto (-19), 3) := by decide +kernel
theorem dX2_clear_59 : decode cX2_clear 59 = .ok (.iconst 0, 1) := by decide +kernel
theorem dX2_clear_60 : decode cX2_clear 60 = .ok (.istore_n 1, 1) := by decide +kernel
theorem dX2_clear_61 : decode cX2_clear 61 = .ok (.iload_n 1, 1) := by decide +kernel
theorem dX2_clear_62 : decode cX2_clear 62 = .ok (.aload_n 0, 1) := by decide +kernel
theorem dX2_clear_63 : decode cX2_clear 63 = .ok (.getfield 48, 3) := by decide +kernel
theorem dX2_clear_66 : decode cX2_clear 66 = .ok (.arraylength, 1) := by decide +kernel
theorem dX2_clear_67 : decode cX2_clear 67 = .ok (.if_icmp .ge 16, 3) := by decide +kernel
theorem dX2_clear_70 : decode cX2_clear 70 = .ok (.aload_n 0, 1) := by decide +kernel
theorem dX2_clear_71 : decode cX2_clear 71 = .ok (.getfield 48, 3) := by decide +kernel
theorem dX2_clear_74 : decode cX2_clear 74 = .ok (.iload_n 1, 1) := by decide +kernel
theorem dX2_clear_75 : decode cX2_clear 75 = .ok (.iconst 0, 1) := by decide +kernel
theorem dX2_clear_76 : decode cX2_clear 76 = .ok (.iastore, 1) := by decide +kernel
theorem dX2_clear_77 : decode cX2_clear 77 = .ok (.iinc 1 1, 3) := by decide +kernel
theorem dX2_clear_80 : decode cX2_clear 80 = .ok (.goto (-19), 3) := by decide +kernel
theorem dX2_clear_83 : decode cX2_clear 83 = .ok (.return_, 1) := by decide +kernel
theorem dX2_copyFrom_0 : decode cX2_copyFrom 0 = .ok (.aload_n 0, 1) := by decide +kernel
theorem dX2_copyFrom_1 : decode cX2_copyFrom 1 = .ok (.aload_n 1, 1) := by decide +kernel
theorem dX2_copyFrom_2 : decode cX2_copyFrom 2 = .ok (.getfield 51, 3) := by decide +kernel
theorem dX2_copyFrom_5 : decode cX2_copyFrom 5 = .ok (.putfield 51, 3) := by decide +kernel
theorem dX2_copyFrom_8 : decode cX2_copyFrom 8 = .ok (.aload_n 0, 1) := by decide +kernel
theorem dX2_copyFrom_9 : decode cX2_copyFrom 9 = .ok (.aload_n 1, 1) := by decide +kernel
theorem dX2_copyFrom_10 : decode cX2_copyFrom 10 = .ok (.getfield 55, 3) := by decide +kernel
theorem dX2_copyFrom_13 : decode cX2_copyFrom 13 = .ok (.putfield 55, 3) := by decide +kernel
theorem dX2_copyFrom_16 : decode cX2_copyFrom 16 = .ok (.aload_n 0, 1) := by decide +kernel
theorem dX2_copyFrom_17 : decode cX2_copyFrom 17 = .ok (.aload_n 1, 1) := by decide +kernel
theorem dX2_copyFrom_18 : decode cX2_copyFrom 18 = .ok (.getfield 58, 3) := by decide +kernel
theorem dX2_copyFrom_21 : decode cX2_copyFrom 21 = .ok (.putfield 58, 3) := by decide +kernel
theorem dX2_copyFrom_24 : decode cX2_copyFrom 24 = .ok (.aload_n 0, 1) := by decide +kernel
theorem dX2_copyFrom_25 : decode cX2_copyFrom 25 = .ok (.aload_n 1, 1) := by decide +kernel
theorem dX2_copyFrom_26 : decode cX2_copyFrom 26 = .ok (.getfield 61, 3) := by decide +kernel
theorem dX2_copyFrom_29 : decode cX2_copyFrom 29 = .ok (.putfield 61, 3) := by decide +kernel
theorem dX2_copyFrom_32 : decode cX2_copyFrom 32 = .ok (.aload_n 0, 1) := by decide +kernel
theorem dX2_copyFrom_33 : decode cX2_copyFrom 33 = .ok (.aload_n 1, 1) := by decide +kernel
theorem dX2_copyFrom_34 : decode cX2_copyFrom 34 = .ok (.getfield 64, 3) := by decide +kernel
theorem dX2_copyFrom_37 : decode cX2_copyFrom 37 = .ok (.putfield 64, 3) := by decide +kernel
theorem dX2_copyFrom_40 : decode cX2_copyFrom 40 = .ok (.aload_n 0, 1) := by decide +kernel
theorem dX2_copyFrom_41 : decode cX2_copyFrom 41 = .ok (.aload_n 1, 1) := by decide +kernel
theorem dX2_copyFrom_42 : decode cX2_copyFrom 42 = .ok (.getfield 67, 3) := by decide +kernel
theorem dX2_copyFrom_45 : decode cX2_copyFrom 45 = .ok (.putfield 67, 3) := by decide +kernel
theorem dX2_copyFrom_48 : decode cX2_copyFrom 48 = .ok (.aload_n 0, 1) := by decide +kernel
theorem dX2_copyFrom_49 : decode cX2_copyFrom 49 = .ok (.aload_n 1, 1) := by decide +kernel
theorem dX2_copyFrom_50 : decode cX2_copyFrom 50 = .ok (.getfield 70, 3) := by decide +kernel
theorem dX2_copyFrom_53 : decode cX2_copyFrom 53 = .ok (.putfield 70, 3) := by decide +kernel
theorem dX2_copyFrom_56 : decode cX2_copyFrom 56 = .ok (.aload_n 1, 1) := by decide +kernel
theorem dX2_copyFrom_57 : decode cX2_copyFrom 57 = .ok (.getfield 9, 3) := by decide +kernel
theorem dX2_copyFrom_60 : decode cX2_copyFrom 60 = .ok (.aload_n 0, 1) := by decide +kernel
theorem dX2_copyFrom_61 : decode cX2_copyFrom 61 = .ok (.getfield 9, 3) := by decide +kernel
theorem dX2_copyFrom_64 : decode cX2_copyFrom 64 = .ok (.invokestatic 73, 3) := by decide +kernel
theorem dX2_copyFrom_67 : decode cX2_copyFrom 67 = .ok (.aload_n 1, 1) := by decide +kernel
theorem dX2_copyFrom_68 : decode cX2_copyFrom 68 = .ok (.getfield 15, 3) := by decide +kernel
theorem dX2_copyFrom_71 : decode cX2_copyFrom 71 = .ok (.aload_n 0, 1) := by decide +kernel
theorem dX2_copyFrom_72 : decode cX2_copyFrom 72 = .ok (.getfield 15, 3) := by decide +kernel
theorem dX2_copyFrom_75 : decode cX2_copyFrom 75 = .ok (.invokestatic 73, 3) := by decide +kernel
theorem dX2_copyFrom_78 : decode cX2_copyFrom 78 = .ok (.aload_n 1, 1) := by decide +kernel
theorem dX2_copyFrom_79 : decode cX2_copyFrom 79 = .ok (.getfield 18, 3) := by decide +kernel
theorem dX2_copyFrom_82 : decode cX2_copyFrom 82 = .ok (.aload_n 0, 1) := by decide +kernel
theorem dX2_copyFrom_83 : decode cX2_copyFrom 83 = .ok (.getfield 18, 3) := by decide +kernel
theorem dX2_copyFrom_86 : decode cX2_copyFrom 86 = .ok (.invokestatic 73, 3) := by decide +kernel
theorem dX2_copyFrom_89 : decode cX2_copyFrom 89 = .ok (.aload_n 1, 1) := by decide +kernel
theorem dX2_copyFrom_90 : decode cX2_copyFrom 90 = .ok (.getfield 21, 3) := by decide +kernel
theorem dX2_copyFrom_93 : decode cX2_copyFrom 93 = .ok (.aload_n 0, 1) := by decide +kernel
theorem dX2_copyFrom_94 : decode cX2_copyFrom 94 = .ok (.getfield 21, 3) := by decide +kernel
theorem dX2_copyFrom_97 : decode cX2_copyFrom 97 = .ok (.invokestatic 73, 3) := by decide +kernel
theorem dX2_copyFrom_100 : decode cX2_copyFrom 100 = .ok (.aload_n 1, 1) := by decide +kernel
theorem dX2_copyFrom_101 : decode cX2_copyFrom 101 = .ok (.getfield 24, 3) := by decide +kernel
theorem dX2_copyFrom_104 : decode cX2_copyFrom 104 = .ok (.aload_n 0, 1) := by decide +kernel
theorem dX2_copyFrom_105 : decode cX2_copyFrom 105 = .ok (.getfield 24, 3) := by decide +kernel
theorem dX2_copyFrom_108 : decode cX2_copyFrom 108 = .ok (.invokestatic 73, 3) := by decide +kernel
theorem dX2_copyFrom_111 : decode cX2_copyFrom 111 = .ok (.aload_n 1, 1) := by decide +kernel
theorem dX2_copyFrom_112 : decode cX2_copyFrom 112 = .ok (.getfield 27, 3) := by decide +kernel
theorem dX2_copyFrom_115 : decode cX2_copyFrom 115 = .ok (.aload_n 0, 1) := by decide +kernel
theorem dX2_copyFrom_116 : decode cX2_copyFrom 116 = .ok (.getfield 27, 3) := by decide +kernel
theorem dX2_copyFrom_119 : decode cX2_copyFrom 119 = .ok (.invokestatic 73, 3) := by decide +kernel
theorem dX2_copyFrom_122 : decode cX2_copyFrom 122 = .ok (.aload_n 1, 1) := by decide +kernel
theorem dX2_copyFrom_123 : decode cX2_copyFrom 123 = .ok (.getfield 30, 3) := by decide +kernel
theorem dX2_copyFrom_126 : decode cX2_copyFrom 126 = .ok (.aload_n 0, 1) := by decide +kernel
theorem dX2_copyFrom_127 : decode cX2_copyFrom 127 = .ok (.getfield 30, 3) := by decide +kernel
theorem dX2_copyFrom_130 : decode cX2_copyFrom 130 = .ok (.invokestatic 73, 3) := by decide +kernel
theorem dX2_copyFrom_133 : decode cX2_copyFrom 133 = .ok (.aload_n 1, 1) := by decide +kernel
theorem dX2_copyFrom_134 : decode cX2_copyFrom 134 = .ok (.getfield 33, 3) := by decide +kernel
theorem dX2_copyFrom_137 : decode cX2_copyFrom 137 = .ok (.aload_n 0, 1) := by decide +kernel
theorem dX2_copyFrom_138 : decode cX2_copyFrom 138 = .ok (.getfield 33, 3) := by decide +kernel
theorem dX2_copyFrom_141 : decode cX2_copyFrom 141 = .ok (.invokestatic 73, 3) := by decide +kernel
theorem dX2_copyFrom_144 : decode cX2_copyFrom 144 = .ok (.aload_n 1, 1) := by decide +kernel
theorem dX2_copyFrom_145 : decode cX2_copyFrom 145 = .ok (.getfield 36, 3) := by decide +kernel
theorem dX2_copyFrom_148 : decode cX2_copyFrom 148 = .ok (.aload_n 0, 1) := by decide +kernel
theorem dX2_copyFrom_149 : decode cX2_copyFrom 149 = .ok (.getfield 36, 3) := by decide +kernel
theorem dX2_copyFrom_152 : decode cX2_copyFrom 152 = .ok (.invokestatic 73, 3) := by decide +kernel
theorem dX2_copyFrom_155 : decode cX2_copyFrom 155 = .ok (.aload_n 1, 1) := by decide +kernel
theorem dX2_copyFrom_156 : decode cX2_copyFrom 156 = .ok (.getfield 39, 3) := by decide +kernel
theorem dX2_copyFrom_159 : decode cX2_copyFrom 159 = .ok (.aload_n 0, 1) := by decide +kernel
theorem dX2_copyFrom_160 : decode cX2_copyFrom 160 = .ok (.getfield 39, 3) := by decide +kernel
theorem dX2_copyFrom_163 : decode cX2_copyFrom 163 = .ok (.invokestatic 73, 3) := by decide +kernel
theorem dX2_copyFrom_166 : decode cX2_copyFrom 166 = .ok (.aload_n 1, 1) := by decide +kernel
theorem dX2_copyFrom_167 : decode cX2_copyFrom 167 = .ok (.getfield 42, 3) := by decide +kernel
theorem dX2_copyFrom_170 : decode cX2_copyFrom 170 = .ok (.aload_n 0, 1) := by decide +kernel
theorem dX2_copyFrom_171 : decode cX2_copyFrom 171 = .ok (.getfield 42, 3) := by decide +kernel
theorem dX2_copyFrom_174 : decode cX2_copyFrom 174 = .ok (.invokestatic 73, 3) := by decide +kernel
theorem dX2_copyFrom_177 : decode cX2_copyFrom 177 = .ok (.aload_n 1, 1) := by decide +kernel
theorem dX2_copyFrom_178 : decode cX2_copyFrom 178 = .ok (.getfield 45, 3) := by decide +kernel
theorem dX2_copyFrom_181 : decode cX2_copyFrom 181 = .ok (.aload_n 0, 1) := by decide +kernel
theorem dX2_copyFrom_182 : decode cX2_copyFrom 182 = .ok (.getfield 45, 3) := by decide +kernel
theorem dX2_copyFrom_185 : decode cX2_copyFrom 185 = .ok (.invokestatic 73, 3) := by decide +kernel
theorem dX2_copyFrom_188 : decode cX2_copyFrom 188 = .ok (.aload_n 1, 1) := by decide +kernel
theorem dX2_copyFrom_189 : decode cX2_copyFrom 189 = .ok (.getfield 48, 3) := by decide +kernel
theorem dX2_copyFrom_192 : decode cX2_copyFrom 192 = .ok (.aload_n 0, 1) := by decide +kernel
theorem dX2_copyFrom_193 : decode cX2_copyFrom 193 = .ok (.getfield 48, 3) := by decide +kernel
theorem dX2_copyFrom_196 : decode cX2_copyFrom 196 = .ok (.invokestatic 73, 3) := by decide +kernel
theorem dX2_copyFrom_199 : decode cX2_copyFrom 199 = .ok (.return_, 1) := by decide +kernel
theorem dX2_copyRow_0 : decode cX2_copyRow 0 = .ok (.aload_n 0, 1) := by decide +kernel
theorem dX2_copyRow_1 : decode cX2_copyRow 1 = .ok (.iconst 0, 1) := by decide +kernel
theorem dX2_copyRow_2 : decode cX2_copyRow 2 = .ok (.aload_n 1, 1) := by decide +kernel
theorem dX2_copyRow_3 : decode cX2_copyRow 3 = .ok (.iconst 0, 1) := by decide +kernel
theorem dX2_copyRow_4 : decode cX2_copyRow 4 = .ok (.aload_n 0, 1) := by decide +kernel
theorem dX2_copyRow_5 : decode cX2_copyRow 5 = .ok (.arraylength, 1) := by decide +kernel
theorem dX2_copyRow_6 : decode cX2_copyRow 6 = .ok (.aload_n 1, 1) := by decide +kernel
theorem dX2_copyRow_7 : decode cX2_copyRow 7 = .ok (.arraylength, 1) := by decide +kernel
theorem dX2_copyRow_8 : decode cX2_copyRow 8 = .ok (.invokestatic 77, 3) := by decide +kernel
theorem dX2_copyRow_11 : decode cX2_copyRow 11 = .ok (.invokestatic 83, 3) := by decide +kernel
theorem dX2_copyRow_14 : decode cX2_copyRow 14 = .ok (.return_, 1) := by decide +kernel
theorem dX2_hasGood_0 : decode cX2_hasGood 0 = .ok (.iload_n 1, 1) := by decide +kernel
theorem dX2_hasGood_1 : decode cX2_hasGood 1 = .ok (.ifCond .lt 15, 3) := by decide +kernel
theorem dX2_hasGood_4 : decode cX2_hasGood 4 = .ok (.iload_n 1, 1) := by decide +kernel
theorem dX2_hasGood_5 : decode cX2_hasGood 5 = .ok (.aload_n 0, 1) := by decide +kernel
theorem dX2_hasGood_6 : decode cX2_hasGood 6 = .ok (.getfield 55, 3) := by decide +kernel
theorem dX2_hasGood_9 : decode cX2_hasGood 9 = .ok (.if_icmp .ge 7, 3) := by decide +kernel
theorem dX2_hasGood_12 : decode cX2_hasGood 12 = .ok (.iconst 1, 1) := by decide +kernel
theorem dX2_hasGood_13 : decode cX2_hasGood 13 = .ok (.goto 4, 3) := by decide +kernel
theorem dX2_hasGood_16 : decode cX2_hasGood 16 = .ok (.iconst 0, 1) := by decide +kernel
theorem dX2_hasGood_17 : decode cX2_hasGood 17 = .ok (.ireturn, 1) := by decide +kernel
theorem dX2_hasCustomer_0 : decode cX2_hasCustomer 0 = .ok (.iload_n 1, 1) := by decide +kernel
theorem dX2_hasCustomer_1 : decode cX2_hasCustomer 1 = .ok (.ifCond .lt 15, 3) := by decide +kernel
theorem dX2_hasCustomer_4 : decode cX2_hasCustomer 4 = .ok (.iload_n 1, 1) := by decide +kernel
theorem dX2_hasCustomer_5 : decode cX2_hasCustomer 5 = .ok (.aload_n 0, 1) := by decide +kernel
theorem dX2_hasCustomer_6 : decode cX2_hasCustomer 6 = .ok (.getfield 58, 3) := by decide +kernel
theorem dX2_hasCustomer_9 : decode cX2_hasCustomer 9 = .ok (.if_icmp .ge 7, 3) := by decide +kernel
theorem dX2_hasCustomer_12 : decode cX2_hasCustomer 12 = .ok (.iconst 1, 1) := by decide +kernel
theorem dX2_hasCustomer_13 : decode cX2_hasCustomer 13 = .ok (.goto 4, 3) := by decide +kernel
theorem dX2_hasCustomer_16 : decode cX2_hasCustomer 16 = .ok (.iconst 0, 1) := by decide +kernel
theorem dX2_hasCustomer_17 : decode cX2_hasCustomer 17 = .ok (.ireturn, 1) := by decide +kernel
theorem dX2_hasLot_0 : decode cX2_hasLot 0 = .ok (.iload_n 1, 1) := by decide +kernel
theorem dX2_hasLot_1 : decode cX2_hasLot 1 = .ok (.ifCond .lt 15, 3) := by decide +kernel
theorem dX2_hasLot_4 : decode cX2_hasLot 4 = .ok (.iload_n 1, 1) := by decide +kernel
theorem dX2_hasLot_5 : decode cX2_hasLot 5 = .ok (.aload_n 0, 1) := by decide +kernel
theorem dX2_hasLot_6 : decode cX2_hasLot 6 = .ok (.getfield 61, 3) := by decide +kernel
theorem dX2_hasLot_9 : decode cX2_hasLot 9 = .ok (.if_icmp .ge 7, 3) := by decide +kernel
theorem dX2_hasLot_12 : decode cX2_hasLot 12 = .ok (.iconst 1, 1) := by decide +kernel
theorem dX2_hasLot_13 : decode cX2_hasLot 13 = .ok (.goto 4, 3) := by decide +kernel
theorem dX2_hasLot_16 : decode cX2_hasLot 16 = .ok (.iconst 0, 1) := by decide +kernel
theorem dX2_hasLot_17 : decode cX2_hasLot 17 = .ok (.ireturn, 1) := by decide +kernel
theorem dX2_hasOrder_0 : decode cX2_hasOrder 0 = .ok (.iload_n 1, 1) := by decide +kernel
theorem dX2_hasOrder_1 : decode cX2_hasOrder 1 = .ok (.ifCond .lt 15, 3) := by decide +kernel
theorem dX2_hasOrder_4 : decode cX2_hasOrder 4 = .ok (.iload_n 1, 1) := by decide +kernel
theorem dX2_hasOrder_5 : decode cX2_hasOrder 5 = .ok (.aload_n 0, 1) := by decide +kernel
theorem dX2_hasOrder_6 : decode cX2_hasOrder 6 = .ok (.getfield 64, 3) := by decide +kernel
theorem dX2_hasOrder_9 : decode cX2_hasOrder 9 = .ok (.if_icmp .ge 7, 3) := by decide +kernel
theorem dX2_hasOrder_12 : decode cX2_hasOrder 12 = .ok (.iconst 1, 1) := by decide +kernel
theorem dX2_hasOrder_13 : decode cX2_hasOrder 13 = .ok (.goto 4, 3) := by decide +kernel
theorem dX2_hasOrder_16 : decode cX2_hasOrder 16 = .ok (.iconst 0, 1) := by decide +kernel
theorem dX2_hasOrder_17 : decode cX2_hasOrder 17 = .ok (.ireturn, 1) := by decide +kernel
theorem dX2_isOpen_0 : decode cX2_isOpen 0 = .ok (.aload_n 0, 1) := by decide +kernel
theorem dX2_isOpen_1 : decode cX2_isOpen 1 = .ok (.iload_n 1, 1) := by decide +kernel
theorem dX2_isOpen_2 : decode cX2_isOpen 2 = .ok (.invokevirtual 89, 3) := by decide +kernel
theorem dX2_isOpen_5 : decode cX2_isOpen 5 = .ok (.ifCond .eq 16, 3) := by decide +kernel
theorem dX2_isOpen_8 : decode cX2_isOpen 8 = .ok (.aload_n 0, 1) := by decide +kernel
theorem dX2_isOpen_9 : decode cX2_isOpen 9 = .ok (.getfield 42, 3) := by decide +kernel
theorem dX2_isOpen_12 : decode cX2_isOpen 12 = .ok (.iload_n 1, 1) := by decide +kernel
theorem dX2_isOpen_13 : decode cX2_isOpen 13 = .ok (.iaload, 1) := by decide +kernel
theorem dX2_isOpen_14 : decode cX2_isOpen 14 = .ok (.ifCond .ne 7, 3) := by decide +kernel
theorem dX2_isOpen_17 : decode cX2_isOpen 17 = .ok (.iconst 1, 1) := by decide +kernel
theorem dX2_isOpen_18 : decode cX2_isOpen 18 = .ok (.goto 4, 3) := by decide +kernel
theorem dX2_isOpen_21 : decode cX2_isOpen 21 = .ok (.iconst 0, 1) := by decide +kernel
theorem dX2_isOpen_22 : decode cX2_isOpen 22 = .ok (.ireturn, 1) := by decide +kernel
theorem dX2_isAhead_0 : decode cX2_isAhead 0 = .ok (.iload_n 1, 1) := by decide +kernel
theorem dX2_isAhead_1 : decode cX2_isAhead 1 = .ok (.aload_n 0, 1) := by decide +kernel
theorem dX2_isAhead_2 : decode cX2_isAhead 2 = .ok (.getfield 51, 3) := by decide +kernel
theorem dX2_isAhead_5 : decode cX2_isAhead 5 = .ok (.if_icmp .lt 18, 3) := by decide +kernel
theorem dX2_isAhead_8 : decode cX2_isAhead 8 = .ok (.iload_n 1, 1) := by decide +kernel
theorem dX2_isAhead_9 : decode cX2_isAhead 9 = .ok (.aload_n 0, 1) := by decide +kernel
theorem dX2_isAhead_10 : decode cX2_isAhead 10 = .ok (.getfield 51, 3) := by decide +kernel
theorem dX2_isAhead_13 : decode cX2_isAhead 13 = .ok (.bipush 99, 2) := by decide +kernel
theorem dX2_isAhead_15 : decode cX2_isAhead 15 = .ok (.iadd, 1) := by decide +kernel
theorem dX2_isAhead_16 : decode cX2_isAhead 16 = .ok (.if_icmp .gt 7, 3) := by decide +kernel
theorem dX2_isAhead_19 : decode cX2_isAhead 19 = .ok (.iconst 1, 1) := by decide +kernel
theorem dX2_isAhead_20 : decode cX2_isAhead 20 = .ok (.goto 4, 3) := by decide +kernel
theorem dX2_isAhead_23 : decode cX2_isAhead 23 = .ok (.iconst 0, 1) := by decide +kernel
theorem dX2_isAhead_24 : decode cX2_isAhead 24 = .ok (.ireturn, 1) := by decide +kernel
theorem dX2_addCustomer_0 : decode cX2_addCustomer 0 = .ok (.aload_n 0, 1) := by decide +kernel
theorem dX2_addCustomer_1 : decode cX2_addCustomer 1 = .ok (.getfield 58, 3) := by decide +kernel
theorem dX2_addCustomer_4 : decode cX2_addCustomer 4 = .ok (.bipush 6, 2) := by decide +kernel
theorem dX2_addCustomer_6 : decode cX2_addCustomer 6 = .ok (.if_icmp .ge 23, 3) := by decide +kernel
theorem dX2_addCustomer_9 : decode cX2_addCustomer 9 = .ok (.aload_n 0, 1) := by decide +kernel
theorem dX2_addCustomer_10 : decode cX2_addCustomer 10 = .ok (.getfield 9, 3) := by decide +kernel
theorem dX2_addCustomer_13 : decode cX2_addCustomer 13 = .ok (.aload_n 0, 1) := by decide +kernel
theorem dX2_addCustomer_14 : decode cX2_addCustomer 14 = .ok (.getfield 58, 3) := by decide +kernel
theorem dX2_addCustomer_17 : decode cX2_addCustomer 17 = .ok (.iload_n 1, 1) := by decide +kernel
theorem dX2_addCustomer_18 : decode cX2_addCustomer 18 = .ok (.iastore, 1) := by decide +kernel
theorem dX2_addCustomer_19 : decode cX2_addCustomer 19 = .ok (.aload_n 0, 1) := by decide +kernel
theorem dX2_addCustomer_20 : decode cX2_addCustomer 20 = .ok (.dup, 1) := by decide +kernel
theorem dX2_addCustomer_21 : decode cX2_addCustomer 21 = .ok (.getfield 58, 3) := by decide +kernel
theorem dX2_addCustomer_24 : decode cX2_addCustomer 24 = .ok (.iconst 1, 1) := by decide +kernel
theorem dX2_addCustomer_25 : decode cX2_addCustomer 25 = .ok (.iadd, 1) := by decide +kernel
theorem dX2_addCustomer_26 : decode cX2_addCustomer 26 = .ok (.putfield 58, 3) := by decide +kernel
theorem dX2_addCustomer_29 : decode cX2_addCustomer 29 = .ok (.return_, 1) := by decide +kernel
theorem dX2_addLot_0 : decode cX2_addLot 0 = .ok (.aload_n 0, 1) := by decide +kernel
theorem dX2_addLot_1 : decode cX2_addLot 1 = .ok (.getfield 61, 3) := by decide +kernel
theorem dX2_addLot_4 : decode cX2_addLot 4 = .ok (.bipush 24, 2) := by decide +kernel
theorem dX2_addLot_6 : decode cX2_addLot 6 = .ok (.if_icmp .lt 5, 3) := by decide +kernel
theorem dX2_addLot_9 : decode cX2_addLot 9 = .ok (.iconst (-1), 1) := by decide +kernel
theorem dX2_addLot_10 : decode cX2_addLot 10 = .ok (.ireturn, 1) := by decide +kernel
theorem dX2_addLot_11 : decode cX2_addLot 11 = .ok (.aload_n 0, 1) := by decide +kernel
theorem dX2_addLot_12 : decode cX2_addLot 12 = .ok (.getfield 18, 3) := by decide +kernel
theorem dX2_addLot_15 : decode cX2_addLot 15 = .ok (.aload_n 0, 1) := by decide +kernel
theorem dX2_addLot_16 : decode cX2_addLot 16 = .ok (.getfield 61, 3) := by decide +kernel
theorem dX2_addLot_19 : decode cX2_addLot 19 = .ok (.iload_n 1, 1) := by decide +kernel
theorem dX2_addLot_20 : decode cX2_addLot 20 = .ok (.iastore, 1) := by decide +kernel
theorem dX2_addLot_21 : decode cX2_addLot 21 = .ok (.aload_n 0, 1) := by decide +kernel
theorem dX2_addLot_22 : decode cX2_addLot 22 = .ok (.getfield 21, 3) := by decide +kernel
theorem dX2_addLot_25 : decode cX2_addLot 25 = .ok (.aload_n 0, 1) := by decide +kernel
theorem dX2_addLot_26 : decode cX2_addLot 26 = .ok (.getfield 61, 3) := by decide +kernel
theorem dX2_addLot_29 : decode cX2_addLot 29 = .ok (.iload_n 2, 1) := by decide +kernel
theorem dX2_addLot_30 : decode cX2_addLot 30 = .ok (.iastore, 1) := by decide +kernel
theorem dX2_addLot_31 : decode cX2_addLot 31 = .ok (.aload_n 0, 1) := by decide +kernel
theorem dX2_addLot_32 : decode cX2_addLot 32 = .ok (.getfield 24, 3) := by decide +kernel
theorem dX2_addLot_35 : decode cX2_addLot 35 = .ok (.aload_n 0, 1) := by decide +kernel
theorem dX2_addLot_36 : decode cX2_addLot 36 = .ok (.getfield 61, 3) := by decide +kernel
theorem dX2_addLot_39 : decode cX2_addLot 39 = .ok (.iload_n 3, 1) := by decide +kernel
theorem dX2_addLot_40 : decode cX2_addLot 40 = .ok (.iastore, 1) := by decide +kernel
theorem dX2_addLot_41 : decode cX2_addLot 41 = .ok (.aload_n 0, 1) := by decide +kernel
theorem dX2_addLot_42 : decode cX2_addLot 42 = .ok (.getfield 27, 3) := by decide +kernel
theorem dX2_addLot_45 : decode cX2_addLot 45 = .ok (.aload_n 0, 1) := by decide +kernel
theorem dX2_addLot_46 : decode cX2_addLot 46 = .ok (.getfield 61, 3) := by decide +kernel
theorem dX2_addLot_49 : decode cX2_addLot 49 = .ok (.iload 4, 2) := by decide +kernel
theorem dX2_addLot_51 : decode cX2_addLot 51 = .ok (.iastore, 1) := by decide +kernel
theorem dX2_addLot_52 : decode cX2_addLot 52 = .ok (.aload_n 0, 1) := by decide +kernel
theorem dX2_addLot_53 : decode cX2_addLot 53 = .ok (.dup, 1) := by decide +kernel
theorem dX2_addLot_54 : decode cX2_addLot 54 = .ok (.getfield 61, 3) := by decide +kernel
theorem dX2_addLot_57 : decode cX2_addLot 57 = .ok (.dup_x1, 1) := by decide +kernel
theorem dX2_addLot_58 : decode cX2_addLot 58 = .ok (.iconst 1, 1) := by decide +kernel
theorem dX2_addLot_59 : decode cX2_addLot 59 = .ok (.iadd, 1) := by decide +kernel
theorem dX2_addLot_60 : decode cX2_addLot 60 = .ok (.putfield 61, 3) := by decide +kernel
theorem dX2_addLot_63 : decode cX2_addLot 63 = .ok (.ireturn, 1) := by decide +kernel
theorem dX2_addOrder_0 : decode cX2_addOrder 0 = .ok (.aload_n 0, 1) := by decide +kernel
theorem dX2_addOrder_1 : decode cX2_addOrder 1 = .ok (.getfield 64, 3) := by decide +kernel
theorem dX2_addOrder_4 : decode cX2_addOrder 4 = .ok (.bipush 41, 2) := by decide +kernel
theorem dX2_addOrder_6 : decode cX2_addOrder 6 = .ok (.if_icmp .lt 5, 3) := by decide +kernel
theorem dX2_addOrder_9 : decode cX2_addOrder 9 = .ok (.iconst (-1), 1) := by decide +kernel
theorem dX2_addOrder_10 : decode cX2_addOrder 10 = .ok (.ireturn, 1) := by decide +kernel
theorem dX2_addOrder_11 : decode cX2_addOrder 11 = .ok (.aload_n 0, 1) := by decide +kernel
theorem dX2_addOrder_12 : decode cX2_addOrder 12 = .ok (.getfield 30, 3) := by decide +kernel
theorem dX2_addOrder_15 : decode cX2_addOrder 15 = .ok (.aload_n 0, 1) := by decide +kernel
theorem dX2_addOrder_16 : decode cX2_addOrder 16 = .ok (.getfield 64, 3) := by decide +kernel
theorem dX2_addOrder_19 : decode cX2_addOrder 19 = .ok (.iload_n 1, 1) := by decide +kernel
theorem dX2_addOrder_20 : decode cX2_addOrder 20 = .ok (.iastore, 1) := by decide +kernel
theorem dX2_addOrder_21 : decode cX2_addOrder 21 = .ok (.aload_n 0, 1) := by decide +kernel
theorem dX2_addOrder_22 : decode cX2_addOrder 22 = .ok (.getfield 33, 3) := by decide +kernel
theorem dX2_addOrder_25 : decode cX2_addOrder 25 = .ok (.aload_n 0, 1) := by decide +kernel
theorem dX2_addOrder_26 : decode cX2_addOrder 26 = .ok (.getfield 64, 3) := by decide +kernel
theorem dX2_addOrder_29 : decode cX2_addOrder 29 = .ok (.iload_n 2, 1) := by decide +kernel
theorem dX2_addOrder_30 : decode cX2_addOrder 30 = .ok (.iastore, 1) := by decide +kernel
theorem dX2_addOrder_31 : decode cX2_addOrder 31 = .ok (.aload_n 0, 1) := by decide +kernel
theorem dX2_addOrder_32 : decode cX2_addOrder 32 = .ok (.getfield 36, 3) := by decide +kernel
theorem dX2_addOrder_35 : decode cX2_addOrder 35 = .ok (.aload_n 0, 1) := by decide +kernel
theorem dX2_addOrder_36 : decode cX2_addOrder 36 = .ok (.getfield 64, 3) := by decide +kernel
theorem dX2_addOrder_39 : decode cX2_addOrder 39 = .ok (.iload_n 3, 1) := by decide +kernel
theorem dX2_addOrder_40 : decode cX2_addOrder 40 = .ok (.iastore, 1) := by decide +kernel
theorem dX2_addOrder_41 : decode cX2_addOrder 41 = .ok (.aload_n 0, 1) := by decide +kernel
theorem dX2_addOrder_42 : decode cX2_addOrder 42 = .ok (.getfield 39, 3) := by decide +kernel
theorem dX2_addOrder_45 : decode cX2_addOrder 45 = .ok (.aload_n 0, 1) := by decide +kernel
theorem dX2_addOrder_46 : decode cX2_addOrder 46 = .ok (.getfield 64, 3) := by decide +kernel
theorem dX2_addOrder_49 : decode cX2_addOrder 49 = .ok (.iload 4, 2) := by decide +kernel
theorem dX2_addOrder_51 : decode cX2_addOrder 51 = .ok (.iastore, 1) := by decide +kernel
theorem dX2_addOrder_52 : decode cX2_addOrder 52 = .ok (.aload_n 0, 1) := by decide +kernel
theorem dX2_addOrder_53 : decode cX2_addOrder 53 = .ok (.getfield 42, 3) := by decide +kernel
theorem dX2_addOrder_56 : decode cX2_addOrder 56 = .ok (.aload_n 0, 1) := by decide +kernel
theorem dX2_addOrder_57 : decode cX2_addOrder 57 = .ok (.getfield 64, 3) := by decide +kernel
theorem dX2_addOrder_60 : decode cX2_addOrder 60 = .ok (.iconst 0, 1) := by decide +kernel
theorem dX2_addOrder_61 : decode cX2_addOrder 61 = .ok (.iastore, 1) := by decide +kernel
theorem dX2_addOrder_62 : decode cX2_addOrder 62 = .ok (.aload_n 0, 1) := by decide +kernel
theorem dX2_addOrder_63 : decode cX2_addOrder 63 = .ok (.getfield 45, 3) := by decide +kernel
theorem dX2_addOrder_66 : decode cX2_addOrder 66 = .ok (.aload_n 0, 1) := by decide +kernel
theorem dX2_addOrder_67 : decode cX2_addOrder 67 = .ok (.getfield 64, 3) := by decide +kernel
theorem dX2_addOrder_70 : decode cX2_addOrder 70 = .ok (.iconst 0, 1) := by decide +kernel
theorem dX2_addOrder_71 : decode cX2_addOrder 71 = .ok (.iastore, 1) := by decide +kernel
theorem dX2_addOrder_72 : decode cX2_addOrder 72 = .ok (.aload_n 0, 1) := by decide +kernel
theorem dX2_addOrder_73 : decode cX2_addOrder 73 = .ok (.dup, 1) := by decide +kernel
theorem dX2_addOrder_74 : decode cX2_addOrder 74 = .ok (.getfield 64, 3) := by decide +kernel
theorem dX2_addOrder_77 : decode cX2_addOrder 77 = .ok (.dup_x1, 1) := by decide +kernel
theorem dX2_addOrder_78 : decode cX2_addOrder 78 = .ok (.iconst 1, 1) := by decide +kernel
theorem dX2_addOrder_79 : decode cX2_addOrder 79 = .ok (.iadd, 1) := by decide +kernel
theorem dX2_addOrder_80 : decode cX2_addOrder 80 = .ok (.putfield 64, 3) := by decide +kernel
theorem dX2_addOrder_83 : decode cX2_addOrder 83 = .ok (.ireturn, 1) := by decide +kernel
theorem dX2_countOpen_0 : decode cX2_countOpen 0 = .ok (.iconst 0, 1) := by decide +kernel
theorem dX2_countOpen_1 : decode cX2_countOpen 1 = .ok (.istore_n 1, 1) := by decide +kernel
theorem dX2_countOpen_2 : decode cX2_countOpen 2 = .ok (.iconst 0, 1) := by decide +kernel
theorem dX2_countOpen_3 : decode cX2_countOpen 3 = .ok (.istore_n 2, 1) := by decide +kernel
theorem dX2_countOpen_4 : decode cX2_countOpen 4 = .ok (.iload_n 2, 1) := by decide +kernel
theorem dX2_countOpen_5 : decode cX2_countOpen 5 = .ok (.aload_n 0, 1) := by decide +kernel
theorem dX2_countOpen_6 : decode cX2_countOpen 6 = .ok (.getfield 64, 3) := by decide +kernel
theorem dX2_countOpen_9 : decode cX2_countOpen 9 = .ok (.if_icmp .ge 26, 3) := by decide +kernel
theorem dX2_countOpen_12 : decode cX2_countOpen 12 = .ok (.iload_n 1, 1) := by decide +kernel
theorem dX2_countOpen_13 : decode cX2_countOpen 13 = .ok (.aload_n 0, 1) := by decide +kernel
theorem dX2_countOpen_14 : decode cX2_countOpen 14 = .ok (.getfield 42, 3) := by decide +kernel
theorem dX2_countOpen_17 : decode cX2_countOpen 17 = .ok (.iload_n 2, 1) := by decide +kernel
theorem dX2_countOpen_18 : decode cX2_countOpen 18 = .ok (.iaload, 1) := by decide +kernel
theorem dX2_countOpen_19 : decode cX2_countOpen 19 = .ok (.ifCond .ne 7, 3) := by decide +kernel
theorem dX2_countOpen_22 : decode cX2_countOpen 22 = .ok (.iconst 1, 1) := by decide +kernel
theorem dX2_countOpen_23 : decode cX2_countOpen 23 = .ok (.goto 4, 3) := by decide +kernel
theorem dX2_countOpen_26 : decode cX2_countOpen 26 = .ok (.iconst 0, 1) := by decide +kernel
theorem dX2_countOpen_27 : decode cX2_countOpen 27 = .ok (.iadd, 1) := by decide +kernel
theorem dX2_countOpen_28 : decode cX2_countOpen 28 = .ok (.istore_n 1, 1) := by decide +kernel
theorem dX2_countOpen_29 : decode cX2_countOpen 29 = .ok (.iinc 2 1, 3) := by decide +kernel
theorem dX2_countOpen_32 : decode cX2_countOpen 32 = .ok (.goto (-28), 3) := by decide +kernel
theorem dX2_countOpen_35 : decode cX2_countOpen 35 = .ok (.iload_n 1, 1) := by decide +kernel
theorem dX2_countOpen_36 : decode cX2_countOpen 36 = .ok (.ireturn, 1) := by decide +kernel
theorem dX2_sumLeft_0 : decode cX2_sumLeft 0 = .ok (.iconst 0, 1) := by decide +kernel
theorem dX2_sumLeft_1 : decode cX2_sumLeft 1 = .ok (.istore_n 1, 1) := by decide +kernel
theorem dX2_sumLeft_2 : decode cX2_sumLeft 2 = .ok (.iconst 0, 1) := by decide +kernel
theorem dX2_sumLeft_3 : decode cX2_sumLeft 3 = .ok (.istore_n 2, 1) := by decide +kernel
theorem dX2_sumLeft_4 : decode cX2_sumLeft 4 = .ok (.iload_n 2, 1) := by decide +kernel
theorem dX2_sumLeft_5 : decode cX2_sumLeft 5 = .ok (.aload_n 0, 1) := by decide +kernel
theorem dX2_sumLeft_6 : decode cX2_sumLeft 6 = .ok (.getfield 61, 3) := by decide +kernel
theorem dX2_sumLeft_9 : decode cX2_sumLeft 9 = .ok (.if_icmp .ge 18, 3) := by decide +kernel
theorem dX2_sumLeft_12 : decode cX2_sumLeft 12 = .ok (.iload_n 1, 1) := by decide +kernel
theorem dX2_sumLeft_13 : decode cX2_sumLeft 13 = .ok (.aload_n 0, 1) := by decide +kernel
theorem dX2_sumLeft_14 : decode cX2_sumLeft 14 = .ok (.getfield 24, 3) := by decide +kernel
theorem dX2_sumLeft_17 : decode cX2_sumLeft 17 = .ok (.iload_n 2, 1) := by decide +kernel
theorem dX2_sumLeft_18 : decode cX2_sumLeft 18 = .ok (.iaload, 1) := by decide +kernel
theorem dX2_sumLeft_19 : decode cX2_sumLeft 19 = .ok (.iadd, 1) := by decide +kernel
theorem dX2_sumLeft_20 : decode cX2_sumLeft 20 = .ok (.istore_n 1, 1) := by decide +kernel
theorem dX2_sumLeft_21 : decode cX2_sumLeft 21 = .ok (.iinc 2 1, 3) := by decide +kernel
theorem dX2_sumLeft_24 : decode cX2_sumLeft 24 = .ok (.goto (-20), 3) := by decide +kernel
theorem dX2_sumLeft_27 : decode cX2_sumLeft 27 = .ok (.iload_n 1, 1) := by decide +kernel
theorem dX2_sumLeft_28 : decode cX2_sumLeft 28 = .ok (.ireturn, 1) := by decide +kernel
theorem dX2_sumReserved_0 : decode cX2_sumReserved 0 = .ok (.iconst 0, 1) := by decide +kernel
theorem dX2_sumReserved_1 : decode cX2_sumReserved 1 = .ok (.istore_n 1, 1) := by decide +kernel
theorem dX2_sumReserved_2 : decode cX2_sumReserved 2 = .ok (.iconst 0, 1) := by decide +kernel
theorem dX2_sumReserved_3 : decode cX2_sumReserved 3 = .ok (.istore_n 2, 1) := by decide +kernel
theorem dX2_sumReserved_4 : decode cX2_sumReserved 4 = .ok (.iload_n 2, 1) := by decide +kernel
theorem dX2_sumReserved_5 : decode cX2_sumReserved 5 = .ok (.aload_n 0, 1) := by decide +kernel
theorem dX2_sumReserved_6 : decode cX2_sumReserved 6 = .ok (.getfield 61, 3) := by decide +kernel
theorem dX2_sumReserved_9 : decode cX2_sumReserved 9 = .ok (.if_icmp .ge 17, 3) := by decide +kernel
theorem dX2_sumReserved_12 : decode cX2_sumReserved 12 = .ok (.iload_n 1, 1) := by decide +kernel
theorem dX2_sumReserved_13 : decode cX2_sumReserved 13 = .ok (.aload_n 0, 1) := by decide +kernel
theorem dX2_sumReserved_14 : decode cX2_sumReserved 14 = .ok (.iload_n 2, 1) := by decide +kernel
theorem dX2_sumReserved_15 : decode cX2_sumReserved 15 = .ok (.invokevirtual 93, 3) := by decide +kernel
theorem dX2_sumReserved_18 : decode cX2_sumReserved 18 = .ok (.iadd, 1) := by decide +kernel
theorem dX2_sumReserved_19 : decode cX2_sumReserved 19 = .ok (.istore_n 1, 1) := by decide +kernel
theorem dX2_sumReserved_20 : decode cX2_sumReserved 20 = .ok (.iinc 2 1, 3) := by decide +kernel
theorem dX2_sumReserved_23 : decode cX2_sumReserved 23 = .ok (.goto (-19), 3) := by decide +kernel
theorem dX2_sumReserved_26 : decode cX2_sumReserved 26 = .ok (.iload_n 1, 1) := by decide +kernel
theorem dX2_sumReserved_27 : decode cX2_sumReserved 27 = .ok (.ireturn, 1) := by decide +kernel
theorem dX2_openOrder_0 : decode cX2_openOrder 0 = .ok (.iconst 0, 1) := by decide +kernel
theorem dX2_openOrder_1 : decode cX2_openOrder 1 = .ok (.istore_n 3, 1) := by decide +kernel
theorem dX2_openOrder_2 : decode cX2_openOrder 2 = .ok (.iload_n 3, 1) := by decide +kernel
theorem dX2_openOrder_3 : decode cX2_openOrder 3 = .ok (.aload_n 0, 1) := by decide +kernel
theorem dX2_openOrder_4 : decode cX2_openOrder 4 = .ok (.getfield 64, 3) := by decide +kernel
theorem dX2_openOrder_7 : decode cX2_openOrder 7 = .ok (.if_icmp .ge 40, 3) := by decide +kernel
theorem dX2_openOrder_10 : decode cX2_openOrder 10 = .ok (.aload_n 0, 1) := by decide +kernel
theorem dX2_openOrder_11 : decode cX2_openOrder 11 = .ok (.getfield 30, 3) := by decide +kernel
theorem dX2_openOrder_14 : decode cX2_openOrder 14 = .ok (.iload_n 3, 1) := by decide +kernel
theorem dX2_openOrder_15 : decode cX2_openOrder 15 = .ok (.iaload, 1) := by decide +kernel
theorem dX2_openOrder_16 : decode cX2_openOrder 16 = .ok (.iload_n 1, 1) := by decide +kernel
theorem dX2_openOrder_17 : decode cX2_openOrder 17 = .ok (.if_icmp .ne 24, 3) := by decide +kernel
theorem dX2_openOrder_20 : decode cX2_openOrder 20 = .ok (.aload_n 0, 1) := by decide +kernel
theorem dX2_openOrder_21 : decode cX2_openOrder 21 = .ok (.getfield 33, 3) := by decide +kernel
theorem dX2_openOrder_24 : decode cX2_openOrder 24 = .ok (.iload_n 3, 1) := by decide +kernel
theorem dX2_openOrder_25 : decode cX2_openOrder 25 = .ok (.iaload, 1) := by decide +kernel
theorem dX2_openOrder_26 : decode cX2_openOrder 26 = .ok (.iload_n 2, 1) := by decide +kernel
theorem dX2_openOrder_27 : decode cX2_openOrder 27 = .ok (.if_icmp .ne 14, 3) := by decide +kernel
theorem dX2_openOrder_30 : decode cX2_openOrder 30 = .ok (.aload_n 0, 1) := by decide +kernel
theorem dX2_openOrder_31 : decode cX2_openOrder 31 = .ok (.getfield 42, 3) := by decide +kernel
theorem dX2_openOrder_34 : decode cX2_openOrder 34 = .ok (.iload_n 3, 1) := by decide +kernel
theorem dX2_openOrder_35 : decode cX2_openOrder 35 = .ok (.iaload, 1) := by decide +kernel
theorem dX2_openOrder_36 : decode cX2_openOrder 36 = .ok (.ifCond .ne 5, 3) := by decide +kernel
theorem dX2_openOrder_39 : decode cX2_openOrder 39 = .ok (.iload_n 3, 1) := by decide +kernel
theorem dX2_openOrder_40 : decode cX2_openOrder 40 = .ok (.ireturn, 1) := by decide +kernel
theorem dX2_openOrder_41 : decode cX2_openOrder 41 = .ok (.iinc 3 1, 3) := by decide +kernel
theorem dX2_openOrder_44 : decode cX2_openOrder 44 = .ok (.goto (-42), 3) := by decide +kernel
theorem dX2_openOrder_47 : decode cX2_openOrder 47 = .ok (.iconst (-1), 1) := by decide +kernel
theorem dX2_openOrder_48 : decode cX2_openOrder 48 = .ok (.ireturn, 1) := by decide +kernel
theorem dX2_latestOf_0 : decode cX2_latestOf 0 = .ok (.aload_n 0, 1) := by decide +kernel
theorem dX2_latestOf_1 : decode cX2_latestOf 1 = .ok (.getfield 15, 3) := by decide +kernel
theorem dX2_latestOf_4 : decode cX2_latestOf 4 = .ok (.iload_n 1, 1) := by decide +kernel
theorem dX2_latestOf_5 : decode cX2_latestOf 5 = .ok (.iconst 4, 1) := by decide +kernel
theorem dX2_latestOf_6 : decode cX2_latestOf 6 = .ok (.imul, 1) := by decide +kernel
theorem dX2_latestOf_7 : decode cX2_latestOf 7 = .ok (.iload_n 2, 1) := by decide +kernel
theorem dX2_latestOf_8 : decode cX2_latestOf 8 = .ok (.iadd, 1) := by decide +kernel
theorem dX2_latestOf_9 : decode cX2_latestOf 9 = .ok (.iaload, 1) := by decide +kernel
theorem dX2_latestOf_10 : decode cX2_latestOf 10 = .ok (.ireturn, 1) := by decide +kernel
theorem dX2_fits_0 : decode cX2_fits 0 = .ok (.aload_n 0, 1) := by decide +kernel
theorem dX2_fits_1 : decode cX2_fits 1 = .ok (.getfield 30, 3) := by decide +kernel
theorem dX2_fits_4 : decode cX2_fits 4 = .ok (.iload_n 2, 1) := by decide +kernel
theorem dX2_fits_5 : decode cX2_fits 5 = .ok (.iaload, 1) := by decide +kernel
theorem dX2_fits_6 : decode cX2_fits 6 = .ok (.istore_n 3, 1) := by decide +kernel
theorem dX2_fits_7 : decode cX2_fits 7 = .ok (.aload_n 0, 1) := by decide +kernel
theorem dX2_fits_8 : decode cX2_fits 8 = .ok (.getfield 18, 3) := by decide +kernel
theorem dX2_fits_11 : decode cX2_fits 11 = .ok (.iload_n 1, 1) := by decide +kernel
theorem dX2_fits_12 : decode cX2_fits 12 = .ok (.iaload, 1) := by decide +kernel
theorem dX2_fits_13 : decode cX2_fits 13 = .ok (.aload_n 0, 1) := by decide +kernel
theorem dX2_fits_14 : decode cX2_fits 14 = .ok (.getfield 33, 3) := by decide +kernel
theorem dX2_fits_17 : decode cX2_fits 17 = .ok (.iload_n 2, 1) := by decide +kernel
theorem dX2_fits_18 : decode cX2_fits 18 = .ok (.iaload, 1) := by decide +kernel
theorem dX2_fits_19 : decode cX2_fits 19 = .ok (.if_icmp .ne 64, 3) := by decide +kernel
theorem dX2_fits_22 : decode cX2_fits 22 = .ok (.aload_n 0, 1) := by decide +kernel
theorem dX2_fits_23 : decode cX2_fits 23 = .ok (.getfield 21, 3) := by decide +kernel
theorem dX2_fits_26 : decode cX2_fits 26 = .ok (.iload_n 1, 1) := by decide +kernel
theorem dX2_fits_27 : decode cX2_fits 27 = .ok (.iaload, 1) := by decide +kernel
theorem dX2_fits_28 : decode cX2_fits 28 = .ok (.aload_n 0, 1) := by decide +kernel
theorem dX2_fits_29 : decode cX2_fits 29 = .ok (.getfield 39, 3) := by decide +kernel
theorem dX2_fits_32 : decode cX2_fits 32 = .ok (.iload_n 2, 1) := by decide +kernel
theorem dX2_fits_33 : decode cX2_fits 33 = .ok (.iaload, 1) := by decide +kernel
theorem dX2_fits_34 : decode cX2_fits 34 = .ok (.isub, 1) := by decide +kernel
theorem dX2_fits_35 : decode cX2_fits 35 = .ok (.aload_n 0, 1) := by decide +kernel
theorem dX2_fits_36 : decode cX2_fits 36 = .ok (.getfield 9, 3) := by decide +kernel
theorem dX2_fits_39 : decode cX2_fits 39 = .ok (.iload_n 3, 1) := by decide +kernel
theorem dX2_fits_40 : decode cX2_fits 40 = .ok (.iaload, 1) := by decide +kernel
theorem dX2_fits_41 : decode cX2_fits 41 = .ok (.if_icmp .lt 42, 3) := by decide +kernel
theorem dX2_fits_44 : decode cX2_fits 44 = .ok (.aload_n 0, 1) := by decide +kernel
theorem dX2_fits_45 : decode cX2_fits 45 = .ok (.getfield 21, 3) := by decide +kernel
theorem dX2_fits_48 : decode cX2_fits 48 = .ok (.iload_n 1, 1) := by decide +kernel
theorem dX2_fits_49 : decode cX2_fits 49 = .ok (.iaload, 1) := by decide +kernel
theorem dX2_fits_50 : decode cX2_fits 50 = .ok (.aload_n 0, 1) := by decide +kernel
theorem dX2_fits_51 : decode cX2_fits 51 = .ok (.iload_n 3, 1) := by decide +kernel
theorem dX2_fits_52 : decode cX2_fits 52 = .ok (.aload_n 0, 1) := by decide +kernel
theorem dX2_fits_53 : decode cX2_fits 53 = .ok (.getfield 33, 3) := by decide +kernel
theorem dX2_fits_56 : decode cX2_fits 56 = .ok (.iload_n 2, 1) := by decide +kernel
theorem dX2_fits_57 : decode cX2_fits 57 = .ok (.iaload, 1) := by decide +kernel
theorem dX2_fits_58 : decode cX2_fits 58 = .ok (.invokevirtual 97, 3) := by decide +kernel
theorem dX2_fits_61 : decode cX2_fits 61 = .ok (.if_icmp .lt 22, 3) := by decide +kernel
theorem dX2_fits_64 : decode cX2_fits 64 = .ok (.aload_n 0, 1) := by decide +kernel
theorem dX2_fits_65 : decode cX2_fits 65 = .ok (.getfield 27, 3) := by decide +kernel
theorem dX2_fits_68 : decode cX2_fits 68 = .ok (.iload_n 1, 1) := by decide +kernel
theorem dX2_fits_69 : decode cX2_fits 69 = .ok (.iaload, 1) := by decide +kernel
theorem dX2_fits_70 : decode cX2_fits 70 = .ok (.aload_n 0, 1) := by decide +kernel
theorem dX2_fits_71 : decode cX2_fits 71 = .ok (.getfield 39, 3) := by decide +kernel
theorem dX2_fits_74 : decode cX2_fits 74 = .ok (.iload_n 2, 1) := by decide +kernel
theorem dX2_fits_75 : decode cX2_fits 75 = .ok (.iaload, 1) := by decide +kernel
theorem dX2_fits_76 : decode cX2_fits 76 = .ok (.if_icmp .gt 7, 3) := by decide +kernel
theorem dX2_fits_79 : decode cX2_fits 79 = .ok (.iconst 1, 1) := by decide +kernel
theorem dX2_fits_80 : decode cX2_fits 80 = .ok (.goto 4, 3) := by decide +kernel
theorem dX2_fits_83 : decode cX2_fits 83 = .ok (.iconst 0, 1) := by decide +kernel
theorem dX2_fits_84 : decode cX2_fits 84 = .ok (.ireturn, 1) := by decide +kernel
theorem dX2_reservedFor_0 : decode cX2_reservedFor 0 = .ok (.aload_n 0, 1) := by decide +kernel
theorem dX2_reservedFor_1 : decode cX2_reservedFor 1 = .ok (.getfield 42, 3) := by decide +kernel
theorem dX2_reservedFor_4 : decode cX2_reservedFor 4 = .ok (.iload_n 2, 1) := by decide +kernel
theorem dX2_reservedFor_5 : decode cX2_reservedFor 5 = .ok (.iaload, 1) := by decide +kernel
theorem dX2_reservedFor_6 : decode cX2_reservedFor 6 = .ok (.ifCond .ne 18, 3) := by decide +kernel
theorem dX2_reservedFor_9 : decode cX2_reservedFor 9 = .ok (.aload_n 0, 1) := by decide +kernel
theorem dX2_reservedFor_10 : decode cX2_reservedFor 10 = .ok (.getfield 18, 3) := by decide +kernel
theorem dX2_reservedFor_13 : decode cX2_reservedFor 13 = .ok (.iload_n 1, 1) := by decide +kernel
theorem dX2_reservedFor_14 : decode cX2_reservedFor 14 = .ok (.iaload, 1) := by decide +kernel
theorem dX2_reservedFor_15 : decode cX2_reservedFor 15 = .ok (.aload_n 0, 1) := by decide +kernel
theorem dX2_reservedFor_16 : decode cX2_reservedFor 16 = .ok (.getfield 33, 3) := by decide +kernel
theorem dX2_reservedFor_19 : decode cX2_reservedFor 19 = .ok (.iload_n 2, 1) := by decide +kernel
theorem dX2_reservedFor_20 : decode cX2_reservedFor 20 = .ok (.iaload, 1) := by decide +kernel
theorem dX2_reservedFor_21 : decode cX2_reservedFor 21 = .ok (.if_icmp .eq 5, 3) := by decide +kernel
theorem dX2_reservedFor_24 : decode cX2_reservedFor 24 = .ok (.iconst 0, 1) := by decide +kernel
theorem dX2_reservedFor_25 : decode cX2_reservedFor 25 = .ok (.ireturn, 1) := by decide +kernel
theorem dX2_reservedFor_26 : decode cX2_reservedFor 26 = .ok (.aload_n 0, 1) := by decide +kernel
theorem dX2_reservedFor_27 : decode cX2_reservedFor 27 = .ok (.getfield 48, 3) := by decide +kernel
theorem dX2_reservedFor_30 : decode cX2_reservedFor 30 = .ok (.aload_n 0, 1) := by decide +kernel
theorem dX2_reservedFor_31 : decode cX2_reservedFor 31 = .ok (.iload_n 1, 1) := by decide +kernel
theorem dX2_reservedFor_32 : decode cX2_reservedFor 32 = .ok (.iload_n 2, 1) := by decide +kernel
theorem dX2_reservedFor_33 : decode cX2_reservedFor 33 = .ok (.invokevirtual 100, 3) := by decide +kernel
theorem dX2_reservedFor_36 : decode cX2_reservedFor 36 = .ok (.iaload, 1) := by decide +kernel
theorem dX2_reservedFor_37 : decode cX2_reservedFor 37 = .ok (.ireturn, 1) := by decide +kernel
theorem dX2_setReserved_0 : decode cX2_setReserved 0 = .ok (.aload_n 0, 1) := by decide +kernel
theorem dX2_setReserved_1 : decode cX2_setReserved 1 = .ok (.getfield 48, 3) := by decide +kernel
theorem dX2_setReserved_4 : decode cX2_setReserved 4 = .ok (.aload_n 0, 1) := by decide +kernel
theorem dX2_setReserved_5 : decode cX2_setReserved 5 = .ok (.iload_n 1, 1) := by decide +kernel
theorem dX2_setReserved_6 : decode cX2_setReserved 6 = .ok (.iload_n 2, 1) := by decide +kernel
theorem dX2_setReserved_7 : decode cX2_setReserved 7 = .ok (.invokevirtual 100, 3) := by decide +kernel
theorem dX2_setReserved_10 : decode cX2_setReserved 10 = .ok (.iload_n 3, 1) := by decide +kernel
theorem dX2_setReserved_11 : decode cX2_setReserved 11 = .ok (.iastore, 1) := by decide +kernel
theorem dX2_setReserved_12 : decode cX2_setReserved 12 = .ok (.return_, 1) := by decide +kernel
theorem dX2_cell_0 : decode cX2_cell 0 = .ok (.iload_n 1, 1) := by decide +kernel
theorem dX2_cell_1 : decode cX2_cell 1 = .ok (.bipush 6, 2) := by decide +kernel
theorem dX2_cell_3 : decode cX2_cell 3 = .ok (.imul, 1) := by decide +kernel
theorem dX2_cell_4 : decode cX2_cell 4 = .ok (.aload_n 0, 1) := by decide +kernel
theorem dX2_cell_5 : decode cX2_cell 5 = .ok (.getfield 30, 3) := by decide +kernel
theorem dX2_cell_8 : decode cX2_cell 8 = .ok (.iload_n 2, 1) := by decide +kernel
theorem dX2_cell_9 : decode cX2_cell 9 = .ok (.iaload, 1) := by decide +kernel
theorem dX2_cell_10 : decode cX2_cell 10 = .ok (.iadd, 1) := by decide +kernel
theorem dX2_cell_11 : decode cX2_cell 11 = .ok (.ireturn, 1) := by decide +kernel
theorem dX2_reservedOfLot_0 : decode cX2_reservedOfLot 0 = .ok (.iconst 0, 1) := by decide +kernel
theorem dX2_reservedOfLot_1 : decode cX2_reservedOfLot 1 = .ok (.istore_n 2, 1) := by decide +kernel
theorem dX2_reservedOfLot_2 : decode cX2_reservedOfLot 2 = .ok (.iconst 0, 1) := by decide +kernel
theorem dX2_reservedOfLot_3 : decode cX2_reservedOfLot 3 = .ok (.istore_n 3, 1) := by decide +kernel
theorem dX2_reservedOfLot_4 : decode cX2_reservedOfLot 4 = .ok (.iload_n 3, 1) := by decide +kernel
theorem dX2_reservedOfLot_5 : decode cX2_reservedOfLot 5 = .ok (.aload_n 0, 1) := by decide +kernel
theorem dX2_reservedOfLot_6 : decode cX2_reservedOfLot 6 = .ok (.getfield 58, 3) := by decide +kernel
theorem dX2_reservedOfLot_9 : decode cX2_reservedOfLot 9 = .ok (.if_icmp .ge 23, 3) := by decide +kernel
theorem dX2_reservedOfLot_12 : decode cX2_reservedOfLot 12 = .ok (.iload_n 2, 1) := by decide +kernel
theorem dX2_reservedOfLot_13 : decode cX2_reservedOfLot 13 = .ok (.aload_n 0, 1) := by decide +kernel
theorem dX2_reservedOfLot_14 : decode cX2_reservedOfLot 14 = .ok (.getfield 48, 3) := by decide +kernel
theorem dX2_reservedOfLot_17 : decode cX2_reservedOfLot 17 = .ok (.iload_n 1, 1) := by decide +kernel
theorem dX2_reservedOfLot_18 : decode cX2_reservedOfLot 18 = .ok (.bipush 6, 2) := by decide +kernel
theorem dX2_reservedOfLot_20 : decode cX2_reservedOfLot 20 = .ok (.imul, 1) := by decide +kernel
theorem dX2_reservedOfLot_21 : decode cX2_reservedOfLot 21 = .ok (.iload_n 3, 1) := by decide +kernel
theorem dX2_reservedOfLot_22 : decode cX2_reservedOfLot 22 = .ok (.iadd, 1) := by decide +kernel
theorem dX2_reservedOfLot_23 : decode cX2_reservedOfLot 23 = .ok (.iaload, 1) := by decide +kernel
theorem dX2_reservedOfLot_24 : decode cX2_reservedOfLot 24 = .ok (.iadd, 1) := by decide +kernel
theorem dX2_reservedOfLot_25 : decode cX2_reservedOfLot 25 = .ok (.istore_n 2, 1) := by decide +kernel
theorem dX2_reservedOfLot_26 : decode cX2_reservedOfLot 26 = .ok (.iinc 3 1, 3) := by decide +kernel
theorem dX2_reservedOfLot_29 : decode cX2_reservedOfLot 29 = .ok (.goto (-25), 3) := by decide +kernel
theorem dX2_reservedOfLot_32 : decode cX2_reservedOfLot 32 = .ok (.iload_n 2, 1) := by decide +kernel
theorem dX2_reservedOfLot_33 : decode cX2_reservedOfLot 33 = .ok (.ireturn, 1) := by decide +kernel
theorem dX2_reservedForOrder_0 : decode cX2_reservedForOrder 0 = .ok (.iconst 0, 1) := by decide +kernel
theorem dX2_reservedForOrder_1 : decode cX2_reservedForOrder 1 = .ok (.istore_n 2, 1) := by decide +kernel
theorem dX2_reservedForOrder_2 : decode cX2_reservedForOrder 2 = .ok (.iconst 0, 1) := by decide +kernel
theorem dX2_reservedForOrder_3 : decode cX2_reservedForOrder 3 = .ok (.istore_n 3, 1) := by decide +kernel
theorem dX2_reservedForOrder_4 : decode cX2_reservedForOrder 4 = .ok (.iload_n 3, 1) := by decide +kernel
theorem dX2_reservedForOrder_5 : decode cX2_reservedForOrder 5 = .ok (.aload_n 0, 1) := by decide +kernel
theorem dX2_reservedForOrder_6 : decode cX2_reservedForOrder 6 = .ok (.getfield 61, 3) := by decide +kernel
theorem dX2_reservedForOrder_9 : decode cX2_reservedForOrder 9 = .ok (.if_icmp .ge 18, 3) := by decide +kernel
theorem dX2_reservedForOrder_12 : decode cX2_reservedForOrder 12 = .ok (.iload_n 2, 1) := by decide +kernel
theorem dX2_reservedForOrder_13 : decode cX2_reservedForOrder 13 = .ok (.aload_n 0, 1) := by decide +kernel
theorem dX2_reservedForOrder_14 : decode cX2_reservedForOrder 14 = .ok (.iload_n 3, 1) := by decide +kernel
theorem dX2_reservedForOrder_15 : decode cX2_reservedForOrder 15 = .ok (.iload_n 1, 1) := by decide +kernel
theorem dX2_reservedForOrder_16 : decode cX2_reservedForOrder 16 = .ok (.invokevirtual 103, 3) := by decide +kernel
theorem dX2_reservedForOrder_19 : decode cX2_reservedForOrder 19 = .ok (.iadd, 1) := by decide +kernel
theorem dX2_reservedForOrder_20 : decode cX2_reservedForOrder 20 = .ok (.istore_n 2, 1) := by decide +kernel
theorem dX2_reservedForOrder_21 : decode cX2_reservedForOrder 21 = .ok (.iinc 3 1, 3) := by decide +kernel
theorem dX2_reservedForOrder_24 : decode cX2_reservedForOrder 24 = .ok (.goto (-20), 3) := by decide +kernel
theorem dX2_reservedForOrder_27 : decode cX2_reservedForOrder 27 = .ok (.iload_n 2, 1) := by decide +kernel
theorem dX2_reservedForOrder_28 : decode cX2_reservedForOrder 28 = .ok (.ireturn, 1) := by decide +kernel
theorem dX2_close_0 : decode cX2_close 0 = .ok (.iconst 0, 1) := by decide +kernel
theorem dX2_close_1 : decode cX2_close 1 = .ok (.istore_n 3, 1) := by decide +kernel
theorem dX2_close_2 : decode cX2_close 2 = .ok (.iconst 0, 1) := by decide +kernel
theorem dX2_close_3 : decode cX2_close 3 = .ok (.istore 4, 2) := by decide +kernel
theorem dX2_close_5 : decode cX2_close 5 = .ok (.iload 4, 2) := by decide +kernel
theorem dX2_close_7 : decode cX2_close 7 = .ok (.aload_n 0, 1) := by decide +kernel
theorem dX2_close_8 : decode cX2_close 8 = .ok (.getfield 61, 3) := by decide +kernel
theorem dX2_close_11 : decode cX2_close 11 = .ok (.if_icmp .ge 19, 3) := by decide +kernel
theorem dX2_close_14 : decode cX2_close 14 = .ok (.iload_n 3, 1) := by decide +kernel
theorem dX2_close_15 : decode cX2_close 15 = .ok (.aload_n 0, 1) := by decide +kernel
theorem dX2_close_16 : decode cX2_close 16 = .ok (.iload 4, 2) := by decide +kernel
theorem dX2_close_18 : decode cX2_close 18 = .ok (.iload_n 1, 1) := by decide +kernel
theorem dX2_close_19 : decode cX2_close 19 = .ok (.invokevirtual 106, 3) := by decide +kernel
theorem dX2_close_22 : decode cX2_close 22 = .ok (.iadd, 1) := by decide +kernel
theorem dX2_close_23 : decode cX2_close 23 = .ok (.istore_n 3, 1) := by decide +kernel
theorem dX2_close_24 : decode cX2_close 24 = .ok (.iinc 4 1, 3) := by decide +kernel
theorem dX2_close_27 : decode cX2_close 27 = .ok (.goto (-22), 3) := by decide +kernel
theorem dX2_close_30 : decode cX2_close 30 = .ok (.aload_n 0, 1) := by decide +kernel
theorem dX2_close_31 : decode cX2_close 31 = .ok (.getfield 42, 3) := by decide +kernel
theorem dX2_close_34 : decode cX2_close 34 = .ok (.iload_n 1, 1) := by decide +kernel
theorem dX2_close_35 : decode cX2_close 35 = .ok (.iload_n 2, 1) := by decide +kernel
theorem dX2_close_36 : decode cX2_close 36 = .ok (.iastore, 1) := by decide +kernel
theorem dX2_close_37 : decode cX2_close 37 = .ok (.iload_n 3, 1) := by decide +kernel
theorem dX2_close_38 : decode cX2_close 38 = .ok (.ireturn, 1) := by decide +kernel
theorem dX2_release_0 : decode cX2_release 0 = .ok (.aload_n 0, 1) := by decide +kernel
theorem dX2_release_1 : decode cX2_release 1 = .ok (.iload_n 1, 1) := by decide +kernel
theorem dX2_release_2 : decode cX2_release 2 = .ok (.iload_n 2, 1) := by decide +kernel
theorem dX2_release_3 : decode cX2_release 3 = .ok (.invokevirtual 103, 3) := by decide +kernel
theorem dX2_release_6 : decode cX2_release 6 = .ok (.istore_n 3, 1) := by decide +kernel
theorem dX2_release_7 : decode cX2_release 7 = .ok (.iload_n 3, 1) := by decide +kernel
theorem dX2_release_8 : decode cX2_release 8 = .ok (.ifCond .le 10, 3) := by decide +kernel
theorem dX2_release_11 : decode cX2_release 11 = .ok (.aload_n 0, 1) := by decide +kernel
theorem dX2_release_12 : decode cX2_release 12 = .ok (.iload_n 1, 1) := by decide +kernel
theorem dX2_release_13 : decode cX2_release 13 = .ok (.iload_n 2, 1) := by decide +kernel
theorem dX2_release_14 : decode cX2_release 14 = .ok (.iconst 0, 1) := by decide +kernel
theorem dX2_release_15 : decode cX2_release 15 = .ok (.invokevirtual 109, 3) := by decide +kernel
theorem dX2_release_18 : decode cX2_release 18 = .ok (.iload_n 3, 1) := by decide +kernel
theorem dX2_release_19 : decode cX2_release 19 = .ok (.ireturn, 1) := by decide +kernel
theorem dX2_releaseUnfit_0 : decode cX2_releaseUnfit 0 = .ok (.iconst 0, 1) := by decide +kernel
theorem dX2_releaseUnfit_1 : decode cX2_releaseUnfit 1 = .ok (.istore_n 2, 1) := by decide +kernel
theorem dX2_releaseUnfit_2 : decode cX2_releaseUnfit 2 = .ok (.iconst 0, 1) := by decide +kernel
theorem dX2_releaseUnfit_3 : decode cX2_releaseUnfit 3 = .ok (.istore_n 3, 1) := by decide +kernel
theorem dX2_releaseUnfit_4 : decode cX2_releaseUnfit 4 = .ok (.iload_n 3, 1) := by decide +kernel
theorem dX2_releaseUnfit_5 : decode cX2_releaseUnfit 5 = .ok (.aload_n 0, 1) := by decide +kernel
theorem dX2_releaseUnfit_6 : decode cX2_releaseUnfit 6 = .ok (.getfield 64, 3) := by decide +kernel
theorem dX2_releaseUnfit_9 : decode cX2_releaseUnfit 9 = .ok (.if_icmp .ge 27, 3) := by decide +kernel
theorem dX2_releaseUnfit_12 : decode cX2_releaseUnfit 12 = .ok (.aload_n 0, 1) := by decide +kernel
theorem dX2_releaseUnfit_13 : decode cX2_releaseUnfit 13 = .ok (.iload_n 1, 1) := by decide +kernel
theorem dX2_releaseUnfit_14 : decode cX2_releaseUnfit 14 = .ok (.iload_n 3, 1) := by decide +kernel
theorem dX2_releaseUnfit_15 : decode cX2_releaseUnfit 15 = .ok (.invokevirtual 113, 3) := by decide +kernel
theorem dX2_releaseUnfit_18 : decode cX2_releaseUnfit 18 = .ok (.ifCond .ne 12, 3) := by decide +kernel
theorem dX2_releaseUnfit_21 : decode cX2_releaseUnfit 21 = .ok (.iload_n 2, 1) := by decide +kernel
theorem dX2_releaseUnfit_22 : decode cX2_releaseUnfit 22 = .ok (.aload_n 0, 1) := by decide +kernel
theorem dX2_releaseUnfit_23 : decode cX2_releaseUnfit 23 = .ok (.iload_n 1, 1) := by decide +kernel
theorem dX2_releaseUnfit_24 : decode cX2_releaseUnfit 24 = .ok (.iload_n 3, 1) := by decide +kernel
theorem dX2_releaseUnfit_25 : decode cX2_releaseUnfit 25 = .ok (.invokevirtual 106, 3) := by decide +kernel
theorem dX2_releaseUnfit_28 : decode cX2_releaseUnfit 28 = .ok (.iadd, 1) := by decide +kernel
theorem dX2_releaseUnfit_29 : decode cX2_releaseUnfit 29 = .ok (.istore_n 2, 1) := by decide +kernel
theorem dX2_releaseUnfit_30 : decode cX2_releaseUnfit 30 = .ok (.iinc 3 1, 3) := by decide +kernel
theorem dX2_releaseUnfit_33 : decode cX2_releaseUnfit 33 = .ok (.goto (-29), 3) := by decide +kernel
theorem dX2_releaseUnfit_36 : decode cX2_releaseUnfit 36 = .ok (.iload_n 2, 1) := by decide +kernel
theorem dX2_releaseUnfit_37 : decode cX2_releaseUnfit 37 = .ok (.ireturn, 1) := by decide +kernel
theorem dX2_handOut_0 : decode cX2_handOut 0 = .ok (.iconst (-1), 1) := by decide +kernel
theorem dX2_handOut_1 : decode cX2_handOut 1 = .ok (.istore_n 2, 1) := by decide +kernel
theorem dX2_handOut_2 : decode cX2_handOut 2 = .ok (.iconst 0, 1) := by decide +kernel
theorem dX2_handOut_3 : decode cX2_handOut 3 = .ok (.istore_n 3, 1) := by decide +kernel
theorem dX2_handOut_4 : decode cX2_handOut 4 = .ok (.iload_n 3, 1) := by decide +kernel
theorem dX2_handOut_5 : decode cX2_handOut 5 = .ok (.aload_n 0, 1) := by decide +kernel
theorem dX2_handOut_6 : decode cX2_handOut 6 = .ok (.getfield 61, 3) := by decide +kernel
theorem dX2_handOut_9 : decode cX2_handOut 9 = .ok (.if_icmp .ge 44, 3) := by decide +kernel
theorem dX2_handOut_12 : decode cX2_handOut 12 = .ok (.aload_n 0, 1) := by decide +kernel
theorem dX2_handOut_13 : decode cX2_handOut 13 = .ok (.iload_n 3, 1) := by decide +kernel
theorem dX2_handOut_14 : decode cX2_handOut 14 = .ok (.iload_n 1, 1) := by decide +kernel
theorem dX2_handOut_15 : decode cX2_handOut 15 = .ok (.invokevirtual 103, 3) := by decide +kernel
theorem dX2_handOut_18 : decode cX2_handOut 18 = .ok (.istore 4, 2) := by decide +kernel
theorem dX2_handOut_20 : decode cX2_handOut 20 = .ok (.iload 4, 2) := by decide +kernel
theorem dX2_handOut_22 : decode cX2_handOut 22 = .ok (.ifCond .le 25, 3) := by decide +kernel
theorem dX2_handOut_25 : decode cX2_handOut 25 = .ok (.aload_n 0, 1) := by decide +kernel
theorem dX2_handOut_26 : decode cX2_handOut 26 = .ok (.getfield 24, 3) := by decide +kernel
theorem dX2_handOut_29 : decode cX2_handOut 29 = .ok (.iload_n 3, 1) := by decide +kernel
theorem dX2_handOut_30 : decode cX2_handOut 30 = .ok (.dup2, 1) := by decide +kernel
theorem dX2_handOut_31 : decode cX2_handOut 31 = .ok (.iaload, 1) := by decide +kernel
theorem dX2_handOut_32 : decode cX2_handOut 32 = .ok (.iload 4, 2) := by decide +kernel
theorem dX2_handOut_34 : decode cX2_handOut 34 = .ok (.isub, 1) := by decide +kernel
theorem dX2_handOut_35 : decode cX2_handOut 35 = .ok (.iastore, 1) := by decide +kernel
theorem dX2_handOut_36 : decode cX2_handOut 36 = .ok (.iload_n 2, 1) := by decide +kernel
theorem dX2_handOut_37 : decode cX2_handOut 37 = .ok (.aload_n 0, 1) := by decide +kernel
theorem dX2_handOut_38 : decode cX2_handOut 38 = .ok (.getfield 21, 3) := by decide +kernel
theorem dX2_handOut_41 : decode cX2_handOut 41 = .ok (.iload_n 3, 1) := by decide +kernel
theorem dX2_handOut_42 : decode cX2_handOut 42 = .ok (.iaload, 1) := by decide +kernel
theorem dX2_handOut_43 : decode cX2_handOut 43 = .ok (.invokestatic 117, 3) := by decide +kernel
theorem dX2_handOut_46 : decode cX2_handOut 46 = .ok (.istore_n 2, 1) := by decide +kernel
theorem dX2_handOut_47 : decode cX2_handOut 47 = .ok (.iinc 3 1, 3) := by decide +kernel
theorem dX2_handOut_50 : decode cX2_handOut 50 = .ok (.goto (-46), 3) := by decide +kernel
theorem dX2_handOut_53 : decode cX2_handOut 53 = .ok (.aload_n 0, 1) := by decide +kernel
theorem dX2_handOut_54 : decode cX2_handOut 54 = .ok (.iload_n 1, 1) := by decide +kernel
theorem dX2_handOut_55 : decode cX2_handOut 55 = .ok (.iconst 1, 1) := by decide +kernel
theorem dX2_handOut_56 : decode cX2_handOut 56 = .ok (.invokevirtual 120, 3) := by decide +kernel
theorem dX2_handOut_59 : decode cX2_handOut 59 = .ok (.istore_n 3, 1) := by decide +kernel
theorem dX2_handOut_60 : decode cX2_handOut 60 = .ok (.aload_n 0, 1) := by decide +kernel
theorem dX2_handOut_61 : decode cX2_handOut 61 = .ok (.getfield 45, 3) := by decide +kernel
theorem dX2_handOut_64 : decode cX2_handOut 64 = .ok (.iload_n 1, 1) := by decide +kernel
theorem dX2_handOut_65 : decode cX2_handOut 65 = .ok (.iload_n 3, 1) := by decide +kernel
theorem dX2_handOut_66 : decode cX2_handOut 66 = .ok (.iastore, 1) := by decide +kernel
theorem dX2_handOut_67 : decode cX2_handOut 67 = .ok (.aload_n 0, 1) := by decide +kernel
theorem dX2_handOut_68 : decode cX2_handOut 68 = .ok (.getfield 15, 3) := by decide +kernel
theorem dX2_handOut_71 : decode cX2_handOut 71 = .ok (.aload_n 0, 1) := by decide +kernel
theorem dX2_handOut_72 : decode cX2_handOut 72 = .ok (.getfield 30, 3) := by decide +kernel
theorem dX2_handOut_75 : decode cX2_handOut 75 = .ok (.iload_n 1, 1) := by decide +kernel
theorem dX2_handOut_76 : decode cX2_handOut 76 = .ok (.iaload, 1) := by decide +kernel
theorem dX2_handOut_77 : decode cX2_handOut 77 = .ok (.iconst 4, 1) := by decide +kernel
theorem dX2_handOut_78 : decode cX2_handOut 78 = .ok (.imul, 1) := by decide +kernel
theorem dX2_handOut_79 : decode cX2_handOut 79 = .ok (.aload_n 0, 1) := by decide +kernel
theorem dX2_handOut_80 : decode cX2_handOut 80 = .ok (.getfield 33, 3) := by decide +kernel
theorem dX2_handOut_83 : decode cX2_handOut 83 = .ok (.iload_n 1, 1) := by decide +kernel
theorem dX2_handOut_84 : decode cX2_handOut 84 = .ok (.iaload, 1) := by decide +kernel
theorem dX2_handOut_85 : decode cX2_handOut 85 = .ok (.iadd, 1) := by decide +kernel
theorem dX2_handOut_86 : decode cX2_handOut 86 = .ok (.iload_n 2, 1) := by decide +kernel
theorem dX2_handOut_87 : decode cX2_handOut 87 = .ok (.iastore, 1) := by decide +kernel
theorem dX2_handOut_88 : decode cX2_handOut 88 = .ok (.aload_n 0, 1) := by decide +kernel
theorem dX2_handOut_89 : decode cX2_handOut 89 = .ok (.dup, 1) := by decide +kernel
theorem dX2_handOut_90 : decode cX2_handOut 90 = .ok (.getfield 70, 3) := by decide +kernel
theorem dX2_handOut_93 : decode cX2_handOut 93 = .ok (.iload_n 3, 1) := by decide +kernel
theorem dX2_handOut_94 : decode cX2_handOut 94 = .ok (.iadd, 1) := by decide +kernel
theorem dX2_handOut_95 : decode cX2_handOut 95 = .ok (.putfield 70, 3) := by decide +kernel
theorem dX2_handOut_98 : decode cX2_handOut 98 = .ok (.iload_n 3, 1) := by decide +kernel
theorem dX2_handOut_99 : decode cX2_handOut 99 = .ok (.ireturn, 1) := by decide +kernel
theorem dX2_endDay_0 : decode cX2_endDay 0 = .ok (.iconst 0, 1) := by decide +kernel
theorem dX2_endDay_1 : decode cX2_endDay 1 = .ok (.istore_n 1, 1) := by decide +kernel
theorem dX2_endDay_2 : decode cX2_endDay 2 = .ok (.iload_n 1, 1) := by decide +kernel
theorem dX2_endDay_3 : decode cX2_endDay 3 = .ok (.aload_n 0, 1) := by decide +kernel
theorem dX2_endDay_4 : decode cX2_endDay 4 = .ok (.getfield 64, 3) := by decide +kernel
theorem dX2_endDay_7 : decode cX2_endDay 7 = .ok (.if_icmp .ge 38, 3) := by decide +kernel
theorem dX2_endDay_10 : decode cX2_endDay 10 = .ok (.aload_n 0, 1) := by decide +kernel
theorem dX2_endDay_11 : decode cX2_endDay 11 = .ok (.getfield 42, 3) := by decide +kernel
theorem dX2_endDay_14 : decode cX2_endDay 14 = .ok (.iload_n 1, 1) := by decide +kernel
theorem dX2_endDay_15 : decode cX2_endDay 15 = .ok (.iaload, 1) := by decide +kernel
theorem dX2_endDay_16 : decode cX2_endDay 16 = .ok (.ifCond .ne 23, 3) := by decide +kernel
theorem dX2_endDay_19 : decode cX2_endDay 19 = .ok (.aload_n 0, 1) := by decide +kernel
theorem dX2_endDay_20 : decode cX2_endDay 20 = .ok (.getfield 39, 3) := by decide +kernel
theorem dX2_endDay_23 : decode cX2_endDay 23 = .ok (.iload_n 1, 1) := by decide +kernel
theorem dX2_endDay_24 : decode cX2_endDay 24 = .ok (.iaload, 1) := by decide +kernel
theorem dX2_endDay_25 : decode cX2_endDay 25 = .ok (.aload_n 0, 1) := by decide +kernel
theorem dX2_endDay_26 : decode cX2_endDay 26 = .ok (.getfield 51, 3) := by decide +kernel
theorem dX2_endDay_29 : decode cX2_endDay 29 = .ok (.if_icmp .ne 10, 3) := by decide +kernel
theorem dX2_endDay_32 : decode cX2_endDay 32 = .ok (.aload_n 0, 1) := by decide +kernel
theorem dX2_endDay_33 : decode cX2_endDay 33 = .ok (.iload_n 1, 1) := by decide +kernel
theorem dX2_endDay_34 : decode cX2_endDay 34 = .ok (.iconst 3, 1) := by decide +kernel
theorem dX2_endDay_35 : decode cX2_endDay 35 = .ok (.invokevirtual 120, 3) := by decide +kernel
theorem dX2_endDay_38 : decode cX2_endDay 38 = .ok (.pop, 1) := by decide +kernel
theorem dX2_endDay_39 : decode cX2_endDay 39 = .ok (.iinc 1 1, 3) := by decide +kernel
theorem dX2_endDay_42 : decode cX2_endDay 42 = .ok (.goto (-40), 3) := by decide +kernel
theorem dX2_endDay_45 : decode cX2_endDay 45 = .ok (.iconst 0, 1) := by decide +kernel
theorem dX2_endDay_46 : decode cX2_endDay 46 = .ok (.istore_n 1, 1) := by decide +kernel
theorem dX2_endDay_47 : decode cX2_endDay 47 = .ok (.iload_n 1, 1) := by decide +kernel
theorem dX2_endDay_48 : decode cX2_endDay 48 = .ok (.aload_n 0, 1) := by decide +kernel
theorem dX2_endDay_49 : decode cX2_endDay 49 = .ok (.getfield 61, 3) := by decide +kernel
theorem dX2_endDay_52 : decode cX2_endDay 52 = .ok (.if_icmp .ge 27, 3) := by decide +kernel
theorem dX2_endDay_55 : decode cX2_endDay 55 = .ok (.aload_n 0, 1) := by decide +kernel
theorem dX2_endDay_56 : decode cX2_endDay 56 = .ok (.getfield 21, 3) := by decide +kernel
theorem dX2_endDay_59 : decode cX2_endDay 59 = .ok (.iload_n 1, 1) := by decide +kernel
theorem dX2_endDay_60 : decode cX2_endDay 60 = .ok (.iaload, 1) := by decide +kernel
theorem dX2_endDay_61 : decode cX2_endDay 61 = .ok (.aload_n 0, 1) := by decide +kernel
theorem dX2_endDay_62 : decode cX2_endDay 62 = .ok (.getfield 51, 3) := by decide +kernel
theorem dX2_endDay_65 : decode cX2_endDay 65 = .ok (.if_icmp .ne 8, 3) := by decide +kernel
theorem dX2_endDay_68 : decode cX2_endDay 68 = .ok (.aload_n 0, 1) := by decide +kernel
theorem dX2_endDay_69 : decode cX2_endDay 69 = .ok (.iload_n 1, 1) := by decide +kernel
theorem dX2_endDay_70 : decode cX2_endDay 70 = .ok (.invokevirtual 123, 3) := by decide +kernel
theorem dX2_endDay_73 : decode cX2_endDay 73 = .ok (.iinc 1 1, 3) := by decide +kernel
theorem dX2_endDay_76 : decode cX2_endDay 76 = .ok (.goto (-29), 3) := by decide +kernel
theorem dX2_endDay_79 : decode cX2_endDay 79 = .ok (.aload_n 0, 1) := by decide +kernel
theorem dX2_endDay_80 : decode cX2_endDay 80 = .ok (.dup, 1) := by decide +kernel
theorem dX2_endDay_81 : decode cX2_endDay 81 = .ok (.getfield 51, 3) := by decide +kernel
theorem dX2_endDay_84 : decode cX2_endDay 84 = .ok (.iconst 1, 1) := by decide +kernel
theorem dX2_endDay_85 : decode cX2_endDay 85 = .ok (.iadd, 1) := by decide +kernel
theorem dX2_endDay_86 : decode cX2_endDay 86 = .ok (.putfield 51, 3) := by decide +kernel
theorem dX2_endDay_89 : decode cX2_endDay 89 = .ok (.return_, 1) := by decide +kernel
theorem dX2_writeOff_0 : decode cX2_writeOff 0 = .ok (.aload_n 0, 1) := by decide +kernel
theorem dX2_writeOff_1 : decode cX2_writeOff 1 = .ok (.dup, 1) := by decide +kernel
theorem dX2_writeOff_2 : decode cX2_writeOff 2 = .ok (.getfield 67, 3) := by decide +kernel
theorem dX2_writeOff_5 : decode cX2_writeOff 5 = .ok (.aload_n 0, 1) := by decide +kernel
theorem dX2_writeOff_6 : decode cX2_writeOff 6 = .ok (.getfield 24, 3) := by decide +kernel
theorem dX2_writeOff_9 : decode cX2_writeOff 9 = .ok (.iload_n 1, 1) := by decide +kernel
theorem dX2_writeOff_10 : decode cX2_writeOff 10 = .ok (.iaload, 1) := by decide +kernel
theorem dX2_writeOff_11 : decode cX2_writeOff 11 = .ok (.iadd, 1) := by decide +kernel
theorem dX2_writeOff_12 : decode cX2_writeOff 12 = .ok (.putfield 67, 3) := by decide +kernel
theorem dX2_writeOff_15 : decode cX2_writeOff 15 = .ok (.aload_n 0, 1) := by decide +kernel
theorem dX2_writeOff_16 : decode cX2_writeOff 16 = .ok (.getfield 24, 3) := by decide +kernel
theorem dX2_writeOff_19 : decode cX2_writeOff 19 = .ok (.iload_n 1, 1) := by decide +kernel
theorem dX2_writeOff_20 : decode cX2_writeOff 20 = .ok (.iconst 0, 1) := by decide +kernel
theorem dX2_writeOff_21 : decode cX2_writeOff 21 = .ok (.iastore, 1) := by decide +kernel
theorem dX2_writeOff_22 : decode cX2_writeOff 22 = .ok (.iconst 0, 1) := by decide +kernel
theorem dX2_writeOff_23 : decode cX2_writeOff 23 = .ok (.istore_n 2, 1) := by decide +kernel
theorem dX2_writeOff_24 : decode cX2_writeOff 24 = .ok (.iload_n 2, 1) := by decide +kernel
theorem dX2_writeOff_25 : decode cX2_writeOff 25 = .ok (.bipush 6, 2) := by decide +kernel
theorem dX2_writeOff_27 : decode cX2_writeOff 27 = .ok (.if_icmp .ge 21, 3) := by decide +kernel
theorem dX2_writeOff_30 : decode cX2_writeOff 30 = .ok (.aload_n 0, 1) := by decide +kernel
theorem dX2_writeOff_31 : decode cX2_writeOff 31 = .ok (.getfield 48, 3) := by decide +kernel
theorem dX2_writeOff_34 : decode cX2_writeOff 34 = .ok (.iload_n 1, 1) := by decide +kernel
theorem dX2_writeOff_35 : decode cX2_writeOff 35 = .ok (.bipush 6, 2) := by decide +kernel
theorem dX2_writeOff_37 : decode cX2_writeOff 37 = .ok (.imul, 1) := by decide +kernel
theorem dX2_writeOff_38 : decode cX2_writeOff 38 = .ok (.iload_n 2, 1) := by decide +kernel
theorem dX2_writeOff_39 : decode cX2_writeOff 39 = .ok (.iadd, 1) := by decide +kernel
theorem dX2_writeOff_40 : decode cX2_writeOff 40 = .ok (.iconst 0, 1) := by decide +kernel
theorem dX2_writeOff_41 : decode cX2_writeOff 41 = .ok (.iastore, 1) := by decide +kernel
theorem dX2_writeOff_42 : decode cX2_writeOff 42 = .ok (.iinc 2 1, 3) := by decide +kernel
theorem dX2_writeOff_45 : decode cX2_writeOff 45 = .ok (.goto (-21), 3) := by decide +kernel
theorem dX2_writeOff_48 : decode cX2_writeOff 48 = .ok (.return_, 1) := by decide +kernel
