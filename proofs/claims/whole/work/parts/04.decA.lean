theorem dX0_init_0 : decode cX0_init 0 = .ok (.aload_n 0, 1) := by decide +kernel
theorem dX0_init_1 : decode cX0_init 1 = .ok (.invokespecial 3, 3) := by decide +kernel
theorem dX0_init_4 : decode cX0_init 4 = .ok (.aload_n 0, 1) := by decide +kernel
theorem dX0_init_5 : decode cX0_init 5 = .ok (.bipush 6, 2) := by decide +kernel
theorem dX0_init_7 : decode cX0_init 7 = .ok (.newarray .int, 2) := by decide +kernel
theorem dX0_init_9 : decode cX0_init 9 = .ok (.putfield 9, 3) := by decide +kernel
theorem dX0_init_12 : decode cX0_init 12 = .ok (.aload_n 0, 1) := by decide +kernel
theorem dX0_init_13 : decode cX0_init 13 = .ok (.bipush 48, 2) := by decide +kernel
theorem dX0_init_15 : decode cX0_init 15 = .ok (.newarray .int, 2) := by decide +kernel
theorem dX0_init_17 : decode cX0_init 17 = .ok (.putfield 15, 3) := by decide +kernel
theorem dX0_init_20 : decode cX0_init 20 = .ok (.aload_n 0, 1) := by decide +kernel
theorem dX0_init_21 : decode cX0_init 21 = .ok (.bipush 8, 2) := by decide +kernel
theorem dX0_init_23 : decode cX0_init 23 = .ok (.newarray .int, 2) := by decide +kernel
theorem dX0_init_25 : decode cX0_init 25 = .ok (.putfield 18, 3) := by decide +kernel
theorem dX0_init_28 : decode cX0_init 28 = .ok (.aload_n 0, 1) := by decide +kernel
theorem dX0_init_29 : decode cX0_init 29 = .ok (.bipush 8, 2) := by decide +kernel
theorem dX0_init_31 : decode cX0_init 31 = .ok (.newarray .int, 2) := by decide +kernel
theorem dX0_init_33 : decode cX0_init 33 = .ok (.putfield 21, 3) := by decide +kernel
theorem dX0_init_36 : decode cX0_init 36 = .ok (.aload_n 0, 1) := by decide +kernel
theorem dX0_init_37 : decode cX0_init 37 = .ok (.iconst (-1), 1) := by decide +kernel
theorem dX0_init_38 : decode cX0_init 38 = .ok (.putfield 24, 3) := by decide +kernel
theorem dX0_init_41 : decode cX0_init 41 = .ok (.return_, 1) := by decide +kernel
theorem dX0_clear_0 : decode cX0_clear 0 = .ok (.aload_n 0, 1) := by decide +kernel
theorem dX0_clear_1 : decode cX0_clear 1 = .ok (.getfield 9, 3) := by decide +kernel
theorem dX0_clear_4 : decode cX0_clear 4 = .ok (.iconst 0, 1) := by decide +kernel
theorem dX0_clear_5 : decode cX0_clear 5 = .ok (.invokestatic 28, 3) := by decide +kernel
theorem dX0_clear_8 : decode cX0_clear 8 = .ok (.aload_n 0, 1) := by decide +kernel
theorem dX0_clear_9 : decode cX0_clear 9 = .ok (.getfield 15, 3) := by decide +kernel
theorem dX0_clear_12 : decode cX0_clear 12 = .ok (.iconst 0, 1) := by decide +kernel
theorem dX0_clear_13 : decode cX0_clear 13 = .ok (.invokestatic 28, 3) := by decide +kernel
theorem dX0_clear_16 : decode cX0_clear 16 = .ok (.aload_n 0, 1) := by decide +kernel
theorem dX0_clear_17 : decode cX0_clear 17 = .ok (.getfield 18, 3) := by decide +kernel
theorem dX0_clear_20 : decode cX0_clear 20 = .ok (.iconst 0, 1) := by decide +kernel
theorem dX0_clear_21 : decode cX0_clear 21 = .ok (.invokestatic 28, 3) := by decide +kernel
theorem dX0_clear_24 : decode cX0_clear 24 = .ok (.aload_n 0, 1) := by decide +kernel
theorem dX0_clear_25 : decode cX0_clear 25 = .ok (.getfield 21, 3) := by decide +kernel
theorem dX0_clear_28 : decode cX0_clear 28 = .ok (.iconst 0, 1) := by decide +kernel
theorem dX0_clear_29 : decode cX0_clear 29 = .ok (.invokestatic 28, 3) := by decide +kernel
theorem dX0_clear_32 : decode cX0_clear 32 = .ok (.aload_n 0, 1) := by decide +kernel
theorem dX0_clear_33 : decode cX0_clear 33 = .ok (.iconst 0, 1) := by decide +kernel
theorem dX0_clear_34 : decode cX0_clear 34 = .ok (.putfield 34, 3) := by decide +kernel
theorem dX0_clear_37 : decode cX0_clear 37 = .ok (.aload_n 0, 1) := by decide +kernel
theorem dX0_clear_38 : decode cX0_clear 38 = .ok (.iconst (-1), 1) := by decide +kernel
theorem dX0_clear_39 : decode cX0_clear 39 = .ok (.putfield 24, 3) := by decide +kernel
theorem dX0_clear_42 : decode cX0_clear 42 = .ok (.return_, 1) := by decide +kernel
theorem dX0_copyFrom_0 : decode cX0_copyFrom 0 = .ok (.aload_n 1, 1) := by decide +kernel
theorem dX0_copyFrom_1 : decode cX0_copyFrom 1 = .ok (.getfield 9, 3) := by decide +kernel
theorem dX0_copyFrom_4 : decode cX0_copyFrom 4 = .ok (.aload_n 0, 1) := by decide +kernel
theorem dX0_copyFrom_5 : decode cX0_copyFrom 5 = .ok (.getfield 9, 3) := by decide +kernel
theorem dX0_copyFrom_8 : decode cX0_copyFrom 8 = .ok (.invokestatic 37, 3) := by decide +kernel
theorem dX0_copyFrom_11 : decode cX0_copyFrom 11 = .ok (.aload_n 1, 1) := by decide +kernel
theorem dX0_copyFrom_12 : decode cX0_copyFrom 12 = .ok (.getfield 15, 3) := by decide +kernel
theorem dX0_copyFrom_15 : decode cX0_copyFrom 15 = .ok (.aload_n 0, 1) := by decide +kernel
theorem dX0_copyFrom_16 : decode cX0_copyFrom 16 = .ok (.getfield 15, 3) := by decide +kernel
theorem dX0_copyFrom_19 : decode cX0_copyFrom 19 = .ok (.invokestatic 37, 3) := by decide +kernel
theorem dX0_copyFrom_22 : decode cX0_copyFrom 22 = .ok (.aload_n 1, 1) := by decide +kernel
theorem dX0_copyFrom_23 : decode cX0_copyFrom 23 = .ok (.getfield 18, 3) := by decide +kernel
theorem dX0_copyFrom_26 : decode cX0_copyFrom 26 = .ok (.aload_n 0, 1) := by decide +kernel
theorem dX0_copyFrom_27 : decode cX0_copyFrom 27 = .ok (.getfield 18, 3) := by decide +kernel
theorem dX0_copyFrom_30 : decode cX0_copyFrom 30 = .ok (.invokestatic 37, 3) := by decide +kernel
theorem dX0_copyFrom_33 : decode cX0_copyFrom 33 = .ok (.aload_n 1, 1) := by decide +kernel
theorem dX0_copyFrom_34 : decode cX0_copyFrom 34 = .ok (.getfield 21, 3) := by decide +kernel
theorem dX0_copyFrom_37 : decode cX0_copyFrom 37 = .ok (.aload_n 0, 1) := by decide +kernel
theorem dX0_copyFrom_38 : decode cX0_copyFrom 38 = .ok (.getfield 21, 3) := by decide +kernel
theorem dX0_copyFrom_41 : decode cX0_copyFrom 41 = .ok (.invokestatic 37, 3) := by decide +kernel
theorem dX0_copyFrom_44 : decode cX0_copyFrom 44 = .ok (.aload_n 0, 1) := by decide +kernel
theorem dX0_copyFrom_45 : decode cX0_copyFrom 45 = .ok (.aload_n 1, 1) := by decide +kernel
theorem dX0_copyFrom_46 : decode cX0_copyFrom 46 = .ok (.getfield 34, 3) := by decide +kernel
theorem dX0_copyFrom_49 : decode cX0_copyFrom 49 = .ok (.putfield 34, 3) := by decide +kernel
theorem dX0_copyFrom_52 : decode cX0_copyFrom 52 = .ok (.aload_n 0, 1) := by decide +kernel
theorem dX0_copyFrom_53 : decode cX0_copyFrom 53 = .ok (.aload_n 1, 1) := by decide +kernel
theorem dX0_copyFrom_54 : decode cX0_copyFrom 54 = .ok (.getfield 24, 3) := by decide +kernel
theorem dX0_copyFrom_57 : decode cX0_copyFrom 57 = .ok (.putfield 24, 3) := by decide +kernel
theorem dX0_copyFrom_60 : decode cX0_copyFrom 60 = .ok (.return_, 1) := by decide +kernel
theorem dX0_rateOf_0 : decode cX0_rateOf 0 = .ok (.aload_n 0, 1) := by decide +kernel
theorem dX0_rateOf_1 : decode cX0_rateOf 1 = .ok (.getfield 15, 3) := by decide +kernel
theorem dX0_rateOf_4 : decode cX0_rateOf 4 = .ok (.iload_n 1, 1) := by decide +kernel
theorem dX0_rateOf_5 : decode cX0_rateOf 5 = .ok (.bipush 6, 2) := by decide +kernel
theorem dX0_rateOf_7 : decode cX0_rateOf 7 = .ok (.imul, 1) := by decide +kernel
theorem dX0_rateOf_8 : decode cX0_rateOf 8 = .ok (.iload_n 2, 1) := by decide +kernel
theorem dX0_rateOf_9 : decode cX0_rateOf 9 = .ok (.iadd, 1) := by decide +kernel
theorem dX0_rateOf_10 : decode cX0_rateOf 10 = .ok (.iaload, 1) := by decide +kernel
theorem dX0_rateOf_11 : decode cX0_rateOf 11 = .ok (.ireturn, 1) := by decide +kernel
theorem dX0_setRate_0 : decode cX0_setRate 0 = .ok (.aload_n 0, 1) := by decide +kernel
theorem dX0_setRate_1 : decode cX0_setRate 1 = .ok (.getfield 15, 3) := by decide +kernel
theorem dX0_setRate_4 : decode cX0_setRate 4 = .ok (.iload_n 1, 1) := by decide +kernel
theorem dX0_setRate_5 : decode cX0_setRate 5 = .ok (.bipush 6, 2) := by decide +kernel
theorem dX0_setRate_7 : decode cX0_setRate 7 = .ok (.imul, 1) := by decide +kernel
theorem dX0_setRate_8 : decode cX0_setRate 8 = .ok (.iload_n 2, 1) := by decide +kernel
theorem dX0_setRate_9 : decode cX0_setRate 9 = .ok (.iadd, 1) := by decide +kernel
theorem dX0_setRate_10 : decode cX0_setRate 10 = .ok (.iload_n 3, 1) := by decide +kernel
theorem dX0_setRate_11 : decode cX0_setRate 11 = .ok (.iastore, 1) := by decide +kernel
theorem dX0_setRate_12 : decode cX0_setRate 12 = .ok (.return_, 1) := by decide +kernel
theorem dX0_isSealed_0 : decode cX0_isSealed 0 = .ok (.aload_n 0, 1) := by decide +kernel
theorem dX0_isSealed_1 : decode cX0_isSealed 1 = .ok (.getfield 21, 3) := by decide +kernel
theorem dX0_isSealed_4 : decode cX0_isSealed 4 = .ok (.iload_n 1, 1) := by decide +kernel
theorem dX0_isSealed_5 : decode cX0_isSealed 5 = .ok (.iaload, 1) := by decide +kernel
theorem dX0_isSealed_6 : decode cX0_isSealed 6 = .ok (.ifCond .le 7, 3) := by decide +kernel
theorem dX0_isSealed_9 : decode cX0_isSealed 9 = .ok (.iconst 1, 1) := by decide +kernel
theorem dX0_isSealed_10 : decode cX0_isSealed 10 = .ok (.goto 4, 3) := by decide +kernel
theorem dX0_isSealed_13 : decode cX0_isSealed 13 = .ok (.iconst 0, 1) := by decide +kernel
theorem dX0_isSealed_14 : decode cX0_isSealed 14 = .ok (.ireturn, 1) := by decide +kernel
theorem dX0_sealNext_0 : decode cX0_sealNext 0 = .ok (.aload_n 0, 1) := by decide +kernel
theorem dX0_sealNext_1 : decode cX0_sealNext 1 = .ok (.dup, 1) := by decide +kernel
theorem dX0_sealNext_2 : decode cX0_sealNext 2 = .ok (.getfield 34, 3) := by decide +kernel
theorem dX0_sealNext_5 : decode cX0_sealNext 5 = .ok (.iconst 1, 1) := by decide +kernel
theorem dX0_sealNext_6 : decode cX0_sealNext 6 = .ok (.iadd, 1) := by decide +kernel
theorem dX0_sealNext_7 : decode cX0_sealNext 7 = .ok (.putfield 34, 3) := by decide +kernel
theorem dX0_sealNext_10 : decode cX0_sealNext 10 = .ok (.aload_n 0, 1) := by decide +kernel
theorem dX0_sealNext_11 : decode cX0_sealNext 11 = .ok (.getfield 21, 3) := by decide +kernel
theorem dX0_sealNext_14 : decode cX0_sealNext 14 = .ok (.iload_n 1, 1) := by decide +kernel
theorem dX0_sealNext_15 : decode cX0_sealNext 15 = .ok (.aload_n 0, 1) := by decide +kernel
theorem dX0_sealNext_16 : decode cX0_sealNext 16 = .ok (.getfield 34, 3) := by decide +kernel
theorem dX0_sealNext_19 : decode cX0_sealNext 19 = .ok (.iastore, 1) := by decide +kernel
theorem dX0_sealNext_20 : decode cX0_sealNext 20 = .ok (.aload_n 0, 1) := by decide +kernel
theorem dX0_sealNext_21 : decode cX0_sealNext 21 = .ok (.getfield 34, 3) := by decide +kernel
theorem dX0_sealNext_24 : decode cX0_sealNext 24 = .ok (.ireturn, 1) := by decide +kernel
theorem dX0_delete_0 : decode cX0_delete 0 = .ok (.iconst 0, 1) := by decide +kernel
theorem dX0_delete_1 : decode cX0_delete 1 = .ok (.istore_n 2, 1) := by decide +kernel
theorem dX0_delete_2 : decode cX0_delete 2 = .ok (.iload_n 2, 1) := by decide +kernel
theorem dX0_delete_3 : decode cX0_delete 3 = .ok (.bipush 6, 2) := by decide +kernel
theorem dX0_delete_5 : decode cX0_delete 5 = .ok (.if_icmp .ge 16, 3) := by decide +kernel
theorem dX0_delete_8 : decode cX0_delete 8 = .ok (.aload_n 0, 1) := by decide +kernel
theorem dX0_delete_9 : decode cX0_delete 9 = .ok (.iload_n 1, 1) := by decide +kernel
theorem dX0_delete_10 : decode cX0_delete 10 = .ok (.iload_n 2, 1) := by decide +kernel
theorem dX0_delete_11 : decode cX0_delete 11 = .ok (.iconst 0, 1) := by decide +kernel
theorem dX0_delete_12 : decode cX0_delete 12 = .ok (.invokevirtual 41, 3) := by decide +kernel
theorem dX0_delete_15 : decode cX0_delete 15 = .ok (.iinc 2 1, 3) := by decide +kernel
theorem dX0_delete_18 : decode cX0_delete 18 = .ok (.goto (-16), 3) := by decide +kernel
theorem dX0_delete_21 : decode cX0_delete 21 = .ok (.aload_n 0, 1) := by decide +kernel
theorem dX0_delete_22 : decode cX0_delete 22 = .ok (.getfield 18, 3) := by decide +kernel
theorem dX0_delete_25 : decode cX0_delete 25 = .ok (.iload_n 1, 1) := by decide +kernel
theorem dX0_delete_26 : decode cX0_delete 26 = .ok (.iconst 0, 1) := by decide +kernel
theorem dX0_delete_27 : decode cX0_delete 27 = .ok (.iastore, 1) := by decide +kernel
theorem dX0_delete_28 : decode cX0_delete 28 = .ok (.aload_n 0, 1) := by decide +kernel
theorem dX0_delete_29 : decode cX0_delete 29 = .ok (.getfield 21, 3) := by decide +kernel
theorem dX0_delete_32 : decode cX0_delete 32 = .ok (.iload_n 1, 1) := by decide +kernel
theorem dX0_delete_33 : decode cX0_delete 33 = .ok (.iconst 0, 1) := by decide +kernel
theorem dX0_delete_34 : decode cX0_delete 34 = .ok (.iastore, 1) := by decide +kernel
theorem dX0_delete_35 : decode cX0_delete 35 = .ok (.return_, 1) := by decide +kernel
theorem dX0_valueOf_0 : decode cX0_valueOf 0 = .ok (.lconst 0, 1) := by decide +kernel
theorem dX0_valueOf_1 : decode cX0_valueOf 1 = .ok (.lstore_n 2, 1) := by decide +kernel
theorem dX0_valueOf_2 : decode cX0_valueOf 2 = .ok (.iconst 0, 1) := by decide +kernel
theorem dX0_valueOf_3 : decode cX0_valueOf 3 = .ok (.istore 4, 2) := by decide +kernel
theorem dX0_valueOf_5 : decode cX0_valueOf 5 = .ok (.iload 4, 2) := by decide +kernel
theorem dX0_valueOf_7 : decode cX0_valueOf 7 = .ok (.bipush 6, 2) := by decide +kernel
theorem dX0_valueOf_9 : decode cX0_valueOf 9 = .ok (.if_icmp .ge 29, 3) := by decide +kernel
theorem dX0_valueOf_12 : decode cX0_valueOf 12 = .ok (.lload_n 2, 1) := by decide +kernel
theorem dX0_valueOf_13 : decode cX0_valueOf 13 = .ok (.aload_n 0, 1) := by decide +kernel
theorem dX0_valueOf_14 : decode cX0_valueOf 14 = .ok (.iload_n 1, 1) := by decide +kernel
theorem dX0_valueOf_15 : decode cX0_valueOf 15 = .ok (.iload 4, 2) := by decide +kernel
theorem dX0_valueOf_17 : decode cX0_valueOf 17 = .ok (.invokevirtual 45, 3) := by decide +kernel
theorem dX0_valueOf_20 : decode cX0_valueOf 20 = .ok (.i2l, 1) := by decide +kernel
theorem dX0_valueOf_21 : decode cX0_valueOf 21 = .ok (.aload_n 0, 1) := by decide +kernel
theorem dX0_valueOf_22 : decode cX0_valueOf 22 = .ok (.getfield 9, 3) := by decide +kernel
theorem dX0_valueOf_25 : decode cX0_valueOf 25 = .ok (.iload 4, 2) := by decide +kernel
theorem dX0_valueOf_27 : decode cX0_valueOf 27 = .ok (.iaload, 1) := by decide +kernel
theorem dX0_valueOf_28 : decode cX0_valueOf 28 = .ok (.i2l, 1) := by decide +kernel
theorem dX0_valueOf_29 : decode cX0_valueOf 29 = .ok (.lmul, 1) := by decide +kernel
theorem dX0_valueOf_30 : decode cX0_valueOf 30 = .ok (.ladd, 1) := by decide +kernel
theorem dX0_valueOf_31 : decode cX0_valueOf 31 = .ok (.lstore_n 2, 1) := by decide +kernel
theorem dX0_valueOf_32 : decode cX0_valueOf 32 = .ok (.iinc 4 1, 3) := by decide +kernel
theorem dX0_valueOf_35 : decode cX0_valueOf 35 = .ok (.goto (-30), 3) := by decide +kernel
theorem dX0_valueOf_38 : decode cX0_valueOf 38 = .ok (.lload_n 2, 1) := by decide +kernel
theorem dX0_valueOf_39 : decode cX0_valueOf 39 = .ok (.lreturn, 1) := by decide +kernel
theorem dX0_problemOf_0 : decode cX0_problemOf 0 = .ok (.aload_n 0, 1) := by decide +kernel
theorem dX0_problemOf_1 : decode cX0_problemOf 1 = .ok (.iload_n 1, 1) := by decide +kernel
theorem dX0_problemOf_2 : decode cX0_problemOf 2 = .ok (.invokevirtual 49, 3) := by decide +kernel
theorem dX0_problemOf_5 : decode cX0_problemOf 5 = .ok (.ifCond .ne 5, 3) := by decide +kernel
theorem dX0_problemOf_8 : decode cX0_problemOf 8 = .ok (.iconst 1, 1) := by decide +kernel
theorem dX0_problemOf_9 : decode cX0_problemOf 9 = .ok (.ireturn, 1) := by decide +kernel
theorem dX0_problemOf_10 : decode cX0_problemOf 10 = .ok (.aload_n 0, 1) := by decide +kernel
theorem dX0_problemOf_11 : decode cX0_problemOf 11 = .ok (.iload_n 1, 1) := by decide +kernel
theorem dX0_problemOf_12 : decode cX0_problemOf 12 = .ok (.iconst (-1), 1) := by decide +kernel
theorem dX0_problemOf_13 : decode cX0_problemOf 13 = .ok (.aload_n 2, 1) := by decide +kernel
theorem dX0_problemOf_14 : decode cX0_problemOf 14 = .ok (.invokevirtual 53, 3) := by decide +kernel
theorem dX0_problemOf_17 : decode cX0_problemOf 17 = .ok (.ifCond .eq 5, 3) := by decide +kernel
theorem dX0_problemOf_20 : decode cX0_problemOf 20 = .ok (.iconst 2, 1) := by decide +kernel
theorem dX0_problemOf_21 : decode cX0_problemOf 21 = .ok (.ireturn, 1) := by decide +kernel
theorem dX0_problemOf_22 : decode cX0_problemOf 22 = .ok (.aload_n 0, 1) := by decide +kernel
theorem dX0_problemOf_23 : decode cX0_problemOf 23 = .ok (.iload_n 1, 1) := by decide +kernel
theorem dX0_problemOf_24 : decode cX0_problemOf 24 = .ok (.aload_n 0, 1) := by decide +kernel
theorem dX0_problemOf_25 : decode cX0_problemOf 25 = .ok (.iload_n 1, 1) := by decide +kernel
theorem dX0_problemOf_26 : decode cX0_problemOf 26 = .ok (.invokevirtual 57, 3) := by decide +kernel
theorem dX0_problemOf_29 : decode cX0_problemOf 29 = .ok (.aload_n 2, 1) := by decide +kernel
theorem dX0_problemOf_30 : decode cX0_problemOf 30 = .ok (.invokevirtual 61, 3) := by decide +kernel
theorem dX0_problemOf_33 : decode cX0_problemOf 33 = .ok (.ifCond .eq 5, 3) := by decide +kernel
theorem dX0_problemOf_36 : decode cX0_problemOf 36 = .ok (.iconst 3, 1) := by decide +kernel
theorem dX0_problemOf_37 : decode cX0_problemOf 37 = .ok (.ireturn, 1) := by decide +kernel
theorem dX0_problemOf_38 : decode cX0_problemOf 38 = .ok (.iload_n 1, 1) := by decide +kernel
theorem dX0_problemOf_39 : decode cX0_problemOf 39 = .ok (.aload_n 0, 1) := by decide +kernel
theorem dX0_problemOf_40 : decode cX0_problemOf 40 = .ok (.getfield 24, 3) := by decide +kernel
theorem dX0_problemOf_43 : decode cX0_problemOf 43 = .ok (.if_icmp .ne 7, 3) := by decide +kernel
theorem dX0_problemOf_46 : decode cX0_problemOf 46 = .ok (.iconst 4, 1) := by decide +kernel
theorem dX0_problemOf_47 : decode cX0_problemOf 47 = .ok (.goto 4, 3) := by decide +kernel
theorem dX0_problemOf_50 : decode cX0_problemOf 50 = .ok (.iconst 0, 1) := by decide +kernel
theorem dX0_problemOf_51 : decode cX0_problemOf 51 = .ok (.ireturn, 1) := by decide +kernel
theorem dX0_hasLowRate_0 : decode cX0_hasLowRate 0 = .ok (.iconst 0, 1) := by decide +kernel
theorem dX0_hasLowRate_1 : decode cX0_hasLowRate 1 = .ok (.istore 4, 2) := by decide +kernel
theorem dX0_hasLowRate_3 : decode cX0_hasLowRate 3 = .ok (.iload 4, 2) := by decide +kernel
theorem dX0_hasLowRate_5 : decode cX0_hasLowRate 5 = .ok (.aload_n 3, 1) := by decide +kernel
theorem dX0_hasLowRate_6 : decode cX0_hasLowRate 6 = .ok (.getfield 65, 3) := by decide +kernel
theorem dX0_hasLowRate_9 : decode cX0_hasLowRate 9 = .ok (.if_icmp .ge 34, 3) := by decide +kernel
theorem dX0_hasLowRate_12 : decode cX0_hasLowRate 12 = .ok (.iload 4, 2) := by decide +kernel
theorem dX0_hasLowRate_14 : decode cX0_hasLowRate 14 = .ok (.iload_n 2, 1) := by decide +kernel
theorem dX0_hasLowRate_15 : decode cX0_hasLowRate 15 = .ok (.if_icmp .eq 22, 3) := by decide +kernel
theorem dX0_hasLowRate_18 : decode cX0_hasLowRate 18 = .ok (.aload_n 0, 1) := by decide +kernel
theorem dX0_hasLowRate_19 : decode cX0_hasLowRate 19 = .ok (.iload_n 1, 1) := by decide +kernel
theorem dX0_hasLowRate_20 : decode cX0_hasLowRate 20 = .ok (.iload 4, 2) := by decide +kernel
theorem dX0_hasLowRate_22 : decode cX0_hasLowRate 22 = .ok (.invokevirtual 45, 3) := by decide +kernel
theorem dX0_hasLowRate_25 : decode cX0_hasLowRate 25 = .ok (.aload_n 3, 1) := by decide +kernel
theorem dX0_hasLowRate_26 : decode cX0_hasLowRate 26 = .ok (.getfield 70, 3) := by decide +kernel
theorem dX0_hasLowRate_29 : decode cX0_hasLowRate 29 = .ok (.iload 4, 2) := by decide +kernel
theorem dX0_hasLowRate_31 : decode cX0_hasLowRate 31 = .ok (.iaload, 1) := by decide +kernel
theorem dX0_hasLowRate_32 : decode cX0_hasLowRate 32 = .ok (.if_icmp .ge 5, 3) := by decide +kernel
theorem dX0_hasLowRate_35 : decode cX0_hasLowRate 35 = .ok (.iconst 1, 1) := by decide +kernel
theorem dX0_hasLowRate_36 : decode cX0_hasLowRate 36 = .ok (.ireturn, 1) := by decide +kernel
theorem dX0_hasLowRate_37 : decode cX0_hasLowRate 37 = .ok (.iinc 4 1, 3) := by decide +kernel
theorem dX0_hasLowRate_40 : decode cX0_hasLowRate 40 = .ok (.goto (-37), 3) := by decide +kernel
theorem dX0_hasLowRate_43 : decode cX0_hasLowRate 43 = .ok (.iconst 0, 1) := by decide +kernel
theorem dX0_hasLowRate_44 : decode cX0_hasLowRate 44 = .ok (.ireturn, 1) := by decide +kernel
theorem dX0_isDepositTooLow_0 : decode cX0_isDepositTooLow 0 = .ok (.aload_n 0, 1) := by decide +kernel
theorem dX0_isDepositTooLow_1 : decode cX0_isDepositTooLow 1 = .ok (.getfield 18, 3) := by decide +kernel
theorem dX0_isDepositTooLow_4 : decode cX0_isDepositTooLow 4 = .ok (.iload_n 1, 1) := by decide +kernel
theorem dX0_isDepositTooLow_5 : decode cX0_isDepositTooLow 5 = .ok (.iaload, 1) := by decide +kernel
theorem dX0_isDepositTooLow_6 : decode cX0_isDepositTooLow 6 = .ok (.i2l, 1) := by decide +kernel
theorem dX0_isDepositTooLow_7 : decode cX0_isDepositTooLow 7 = .ok (.ldc2_w 73, 3) := by decide +kernel
theorem dX0_isDepositTooLow_10 : decode cX0_isDepositTooLow 10 = .ok (.lmul, 1) := by decide +kernel
theorem dX0_isDepositTooLow_11 : decode cX0_isDepositTooLow 11 = .ok (.lload_n 2, 1) := by decide +kernel
theorem dX0_isDepositTooLow_12 : decode cX0_isDepositTooLow 12 = .ok (.aload 4, 2) := by decide +kernel
theorem dX0_isDepositTooLow_14 : decode cX0_isDepositTooLow 14 = .ok (.getfield 75, 3) := by decide +kernel
theorem dX0_isDepositTooLow_17 : decode cX0_isDepositTooLow 17 = .ok (.iconst 2, 1) := by decide +kernel
theorem dX0_isDepositTooLow_18 : decode cX0_isDepositTooLow 18 = .ok (.iaload, 1) := by decide +kernel
theorem dX0_isDepositTooLow_19 : decode cX0_isDepositTooLow 19 = .ok (.i2l, 1) := by decide +kernel
theorem dX0_isDepositTooLow_20 : decode cX0_isDepositTooLow 20 = .ok (.lmul, 1) := by decide +kernel
theorem dX0_isDepositTooLow_21 : decode cX0_isDepositTooLow 21 = .ok (.lcmp, 1) := by decide +kernel
theorem dX0_isDepositTooLow_22 : decode cX0_isDepositTooLow 22 = .ok (.ifCond .ge 7, 3) := by decide +kernel
theorem dX0_isDepositTooLow_25 : decode cX0_isDepositTooLow 25 = .ok (.iconst 1, 1) := by decide +kernel
theorem dX0_isDepositTooLow_26 : decode cX0_isDepositTooLow 26 = .ok (.goto 4, 3) := by decide +kernel
theorem dX0_isDepositTooLow_29 : decode cX0_isDepositTooLow 29 = .ok (.iconst 0, 1) := by decide +kernel
theorem dX0_isDepositTooLow_30 : decode cX0_isDepositTooLow 30 = .ok (.ireturn, 1) := by decide +kernel
theorem dX0_isValid_0 : decode cX0_isValid 0 = .ok (.aload_n 0, 1) := by decide +kernel
theorem dX0_isValid_1 : decode cX0_isValid 1 = .ok (.iload_n 1, 1) := by decide +kernel
theorem dX0_isValid_2 : decode cX0_isValid 2 = .ok (.aload_n 2, 1) := by decide +kernel
theorem dX0_isValid_3 : decode cX0_isValid 3 = .ok (.invokevirtual 78, 3) := by decide +kernel
theorem dX0_isValid_6 : decode cX0_isValid 6 = .ok (.ifCond .ne 7, 3) := by decide +kernel
theorem dX0_isValid_9 : decode cX0_isValid 9 = .ok (.iconst 1, 1) := by decide +kernel
theorem dX0_isValid_10 : decode cX0_isValid 10 = .ok (.goto 4, 3) := by decide +kernel
theorem dX0_isValid_13 : decode cX0_isValid 13 = .ok (.iconst 0, 1) := by decide +kernel
theorem dX0_isValid_14 : decode cX0_isValid 14 = .ok (.ireturn, 1) := by decide +kernel
theorem dX0_validBids_0 : decode cX0_validBids 0 = .ok (.iconst 0, 1) := by decide +kernel
theorem dX0_validBids_1 : decode cX0_validBids 1 = .ok (.istore_n 2, 1) := by decide +kernel
theorem dX0_validBids_2 : decode cX0_validBids 2 = .ok (.iconst 0, 1) := by decide +kernel
theorem dX0_validBids_3 : decode cX0_validBids 3 = .ok (.istore_n 3, 1) := by decide +kernel
theorem dX0_validBids_4 : decode cX0_validBids 4 = .ok (.iload_n 3, 1) := by decide +kernel
theorem dX0_validBids_5 : decode cX0_validBids 5 = .ok (.bipush 8, 2) := by decide +kernel
theorem dX0_validBids_7 : decode cX0_validBids 7 = .ok (.if_icmp .ge 21, 3) := by decide +kernel
theorem dX0_validBids_10 : decode cX0_validBids 10 = .ok (.aload_n 0, 1) := by decide +kernel
theorem dX0_validBids_11 : decode cX0_validBids 11 = .ok (.iload_n 3, 1) := by decide +kernel
theorem dX0_validBids_12 : decode cX0_validBids 12 = .ok (.aload_n 1, 1) := by decide +kernel
theorem dX0_validBids_13 : decode cX0_validBids 13 = .ok (.invokevirtual 82, 3) := by decide +kernel
theorem dX0_validBids_16 : decode cX0_validBids 16 = .ok (.ifCond .eq 6, 3) := by decide +kernel
theorem dX0_validBids_19 : decode cX0_validBids 19 = .ok (.iinc 2 1, 3) := by decide +kernel
theorem dX0_validBids_22 : decode cX0_validBids 22 = .ok (.iinc 3 1, 3) := by decide +kernel
theorem dX0_validBids_25 : decode cX0_validBids 25 = .ok (.goto (-21), 3) := by decide +kernel
theorem dX0_validBids_28 : decode cX0_validBids 28 = .ok (.iload_n 2, 1) := by decide +kernel
theorem dX0_validBids_29 : decode cX0_validBids 29 = .ok (.ireturn, 1) := by decide +kernel
theorem dX0_goesBefore_0 : decode cX0_goesBefore 0 = .ok (.lload_n 3, 1) := by decide +kernel
theorem dX0_goesBefore_1 : decode cX0_goesBefore 1 = .ok (.lconst 0, 1) := by decide +kernel
theorem dX0_goesBefore_2 : decode cX0_goesBefore 2 = .ok (.lcmp, 1) := by decide +kernel
theorem dX0_goesBefore_3 : decode cX0_goesBefore 3 = .ok (.ifCond .gt 24, 3) := by decide +kernel
theorem dX0_goesBefore_6 : decode cX0_goesBefore 6 = .ok (.lload_n 3, 1) := by decide +kernel
theorem dX0_goesBefore_7 : decode cX0_goesBefore 7 = .ok (.lconst 0, 1) := by decide +kernel
theorem dX0_goesBefore_8 : decode cX0_goesBefore 8 = .ok (.lcmp, 1) := by decide +kernel
theorem dX0_goesBefore_9 : decode cX0_goesBefore 9 = .ok (.ifCond .ne 22, 3) := by decide +kernel
theorem dX0_goesBefore_12 : decode cX0_goesBefore 12 = .ok (.aload_n 0, 1) := by decide +kernel
theorem dX0_goesBefore_13 : decode cX0_goesBefore 13 = .ok (.getfield 21, 3) := by decide +kernel
theorem dX0_goesBefore_16 : decode cX0_goesBefore 16 = .ok (.iload_n 1, 1) := by decide +kernel
theorem dX0_goesBefore_17 : decode cX0_goesBefore 17 = .ok (.iaload, 1) := by decide +kernel
theorem dX0_goesBefore_18 : decode cX0_goesBefore 18 = .ok (.aload_n 0, 1) := by decide +kernel
theorem dX0_goesBefore_19 : decode cX0_goesBefore 19 = .ok (.getfield 21, 3) := by decide +kernel
theorem dX0_goesBefore_22 : decode cX0_goesBefore 22 = .ok (.iload_n 2, 1) := by decide +kernel
theorem dX0_goesBefore_23 : decode cX0_goesBefore 23 = .ok (.iaload, 1) := by decide +kernel
theorem dX0_goesBefore_24 : decode cX0_goesBefore 24 = .ok (.if_icmp .ge 7, 3) := by decide +kernel
theorem dX0_goesBefore_27 : decode cX0_goesBefore 27 = .ok (.iconst 1, 1) := by decide +kernel
theorem dX0_goesBefore_28 : decode cX0_goesBefore 28 = .ok (.goto 4, 3) := by decide +kernel
theorem dX0_goesBefore_31 : decode cX0_goesBefore 31 = .ok (.iconst 0, 1) := by decide +kernel
theorem dX0_goesBefore_32 : decode cX0_goesBefore 32 = .ok (.ireturn, 1) := by decide +kernel
theorem dX0_beats_0 : decode cX0_beats 0 = .ok (.aload_n 0, 1) := by decide +kernel
theorem dX0_beats_1 : decode cX0_beats 1 = .ok (.iload_n 1, 1) := by decide +kernel
theorem dX0_beats_2 : decode cX0_beats 2 = .ok (.iload_n 2, 1) := by decide +kernel
theorem dX0_beats_3 : decode cX0_beats 3 = .ok (.aload_n 0, 1) := by decide +kernel
theorem dX0_beats_4 : decode cX0_beats 4 = .ok (.iload_n 1, 1) := by decide +kernel
theorem dX0_beats_5 : decode cX0_beats 5 = .ok (.invokevirtual 57, 3) := by decide +kernel
theorem dX0_beats_8 : decode cX0_beats 8 = .ok (.aload_n 0, 1) := by decide +kernel
theorem dX0_beats_9 : decode cX0_beats 9 = .ok (.iload_n 2, 1) := by decide +kernel
theorem dX0_beats_10 : decode cX0_beats 10 = .ok (.invokevirtual 57, 3) := by decide +kernel
theorem dX0_beats_13 : decode cX0_beats 13 = .ok (.lsub, 1) := by decide +kernel
theorem dX0_beats_14 : decode cX0_beats 14 = .ok (.invokevirtual 86, 3) := by decide +kernel
theorem dX0_beats_17 : decode cX0_beats 17 = .ok (.ireturn, 1) := by decide +kernel
theorem dX0_winner_0 : decode cX0_winner 0 = .ok (.iconst (-1), 1) := by decide +kernel
theorem dX0_winner_1 : decode cX0_winner 1 = .ok (.istore_n 2, 1) := by decide +kernel
theorem dX0_winner_2 : decode cX0_winner 2 = .ok (.iconst 0, 1) := by decide +kernel
theorem dX0_winner_3 : decode cX0_winner 3 = .ok (.istore_n 3, 1) := by decide +kernel
theorem dX0_winner_4 : decode cX0_winner 4 = .ok (.iload_n 3, 1) := by decide +kernel
theorem dX0_winner_5 : decode cX0_winner 5 = .ok (.bipush 8, 2) := by decide +kernel
theorem dX0_winner_7 : decode cX0_winner 7 = .ok (.if_icmp .ge 34, 3) := by decide +kernel
theorem dX0_winner_10 : decode cX0_winner 10 = .ok (.aload_n 0, 1) := by decide +kernel
theorem dX0_winner_11 : decode cX0_winner 11 = .ok (.iload_n 3, 1) := by decide +kernel
theorem dX0_winner_12 : decode cX0_winner 12 = .ok (.aload_n 1, 1) := by decide +kernel
theorem dX0_winner_13 : decode cX0_winner 13 = .ok (.invokevirtual 82, 3) := by decide +kernel
theorem dX0_winner_16 : decode cX0_winner 16 = .ok (.ifCond .eq 19, 3) := by decide +kernel
theorem dX0_winner_19 : decode cX0_winner 19 = .ok (.iload_n 2, 1) := by decide +kernel
theorem dX0_winner_20 : decode cX0_winner 20 = .ok (.iconst (-1), 1) := by decide +kernel
theorem dX0_winner_21 : decode cX0_winner 21 = .ok (.if_icmp .eq 12, 3) := by decide +kernel
theorem dX0_winner_24 : decode cX0_winner 24 = .ok (.aload_n 0, 1) := by decide +kernel
theorem dX0_winner_25 : decode cX0_winner 25 = .ok (.iload_n 3, 1) := by decide +kernel
theorem dX0_winner_26 : decode cX0_winner 26 = .ok (.iload_n 2, 1) := by decide +kernel
theorem dX0_winner_27 : decode cX0_winner 27 = .ok (.invokevirtual 90, 3) := by decide +kernel
theorem dX0_winner_30 : decode cX0_winner 30 = .ok (.ifCond .eq 5, 3) := by decide +kernel
theorem dX0_winner_33 : decode cX0_winner 33 = .ok (.iload_n 3, 1) := by decide +kernel
theorem dX0_winner_34 : decode cX0_winner 34 = .ok (.istore_n 2, 1) := by decide +kernel
theorem dX0_winner_35 : decode cX0_winner 35 = .ok (.iinc 3 1, 3) := by decide +kernel
theorem dX0_winner_38 : decode cX0_winner 38 = .ok (.goto (-34), 3) := by decide +kernel
theorem dX0_winner_41 : decode cX0_winner 41 = .ok (.iload_n 2, 1) := by decide +kernel
theorem dX0_winner_42 : decode cX0_winner 42 = .ok (.ireturn, 1) := by decide +kernel
theorem dX0_rankOf_0 : decode cX0_rankOf 0 = .ok (.aload_n 0, 1) := by decide +kernel
theorem dX0_rankOf_1 : decode cX0_rankOf 1 = .ok (.iload_n 1, 1) := by decide +kernel
theorem dX0_rankOf_2 : decode cX0_rankOf 2 = .ok (.aload_n 2, 1) := by decide +kernel
theorem dX0_rankOf_3 : decode cX0_rankOf 3 = .ok (.invokevirtual 82, 3) := by decide +kernel
theorem dX0_rankOf_6 : decode cX0_rankOf 6 = .ok (.ifCond .ne 5, 3) := by decide +kernel
theorem dX0_rankOf_9 : decode cX0_rankOf 9 = .ok (.iconst 0, 1) := by decide +kernel
theorem dX0_rankOf_10 : decode cX0_rankOf 10 = .ok (.ireturn, 1) := by decide +kernel
theorem dX0_rankOf_11 : decode cX0_rankOf 11 = .ok (.iconst 1, 1) := by decide +kernel
theorem dX0_rankOf_12 : decode cX0_rankOf 12 = .ok (.istore_n 3, 1) := by decide +kernel
theorem dX0_rankOf_13 : decode cX0_rankOf 13 = .ok (.iconst 0, 1) := by decide +kernel
theorem dX0_rankOf_14 : decode cX0_rankOf 14 = .ok (.istore 4, 2) := by decide +kernel
theorem dX0_rankOf_16 : decode cX0_rankOf 16 = .ok (.iload 4, 2) := by decide +kernel
theorem dX0_rankOf_18 : decode cX0_rankOf 18 = .ok (.bipush 8, 2) := by decide +kernel
theorem dX0_rankOf_20 : decode cX0_rankOf 20 = .ok (.if_icmp .ge 38, 3) := by decide +kernel
theorem dX0_rankOf_23 : decode cX0_rankOf 23 = .ok (.iload 4, 2) := by decide +kernel
theorem dX0_rankOf_25 : decode cX0_rankOf 25 = .ok (.iload_n 1, 1) := by decide +kernel
theorem dX0_rankOf_26 : decode cX0_rankOf 26 = .ok (.if_icmp .eq 26, 3) := by decide +kernel
theorem dX0_rankOf_29 : decode cX0_rankOf 29 = .ok (.aload_n 0, 1) := by decide +kernel
theorem dX0_rankOf_30 : decode cX0_rankOf 30 = .ok (.iload 4, 2) := by decide +kernel
theorem dX0_rankOf_32 : decode cX0_rankOf 32 = .ok (.aload_n 2, 1) := by decide +kernel
theorem dX0_rankOf_33 : decode cX0_rankOf 33 = .ok (.invokevirtual 82, 3) := by decide +kernel
theorem dX0_rankOf_36 : decode cX0_rankOf 36 = .ok (.ifCond .eq 16, 3) := by decide +kernel
theorem dX0_rankOf_39 : decode cX0_rankOf 39 = .ok (.aload_n 0, 1) := by decide +kernel
theorem dX0_rankOf_40 : decode cX0_rankOf 40 = .ok (.iload 4, 2) := by decide +kernel
theorem dX0_rankOf_42 : decode cX0_rankOf 42 = .ok (.iload_n 1, 1) := by decide +kernel
theorem dX0_rankOf_43 : decode cX0_rankOf 43 = .ok (.invokevirtual 90, 3) := by decide +kernel
theorem dX0_rankOf_46 : decode cX0_rankOf 46 = .ok (.ifCond .eq 6, 3) := by decide +kernel
theorem dX0_rankOf_49 : decode cX0_rankOf 49 = .ok (.iinc 3 1, 3) := by decide +kernel
theorem dX0_rankOf_52 : decode cX0_rankOf 52 = .ok (.iinc 4 1, 3) := by decide +kernel
theorem dX0_rankOf_55 : decode cX0_rankOf 55 = .ok (.goto (-39), 3) := by decide +kernel
theorem dX0_rankOf_58 : decode cX0_rankOf 58 = .ok (.iload_n 3, 1) := by decide +kernel
theorem dX0_rankOf_59 : decode cX0_rankOf 59 = .ok (.ireturn, 1) := by decide +kernel
theorem dX0_leastTurningChange_0 : decode cX0_leastTurningChange 0 = .ok (.iconst 0, 1) := by decide +kernel
theorem dX0_leastTurningChange_1 : decode cX0_leastTurningChange 1 = .ok (.istore 4, 2) := by decide +kernel
theorem dX0_leastTurningChange_3 : decode cX0_leastTurningChange 3 = .ok (.iconst 0, 1) := by decide +kernel
theorem dX0_leastTurningChange_4 : decode cX0_leastTurningChange 4 = .ok (.istore 5, 2) := by decide +kernel
theorem dX0_leastTurningChange_6 : decode cX0_leastTurningChange 6 = .ok (.iload 5, 2) := by decide +kernel
theorem dX0_leastTurningChange_8 : decode cX0_leastTurningChange 8 = .ok (.bipush 8, 2) := by decide +kernel
theorem dX0_leastTurningChange_10 : decode cX0_leastTurningChange 10 = .ok (.if_icmp .ge 60, 3) := by decide +kernel
theorem dX0_leastTurningChange_13 : decode cX0_leastTurningChange 13 = .ok (.iload 5, 2) := by decide +kernel
theorem dX0_leastTurningChange_15 : decode cX0_leastTurningChange 15 = .ok (.iload_n 1, 1) := by decide +kernel
theorem dX0_leastTurningChange_16 : decode cX0_leastTurningChange 16 = .ok (.if_icmp .eq 48, 3) := by decide +kernel
theorem dX0_leastTurningChange_19 : decode cX0_leastTurningChange 19 = .ok (.aload_n 0, 1) := by decide +kernel
theorem dX0_leastTurningChange_20 : decode cX0_leastTurningChange 20 = .ok (.iload 5, 2) := by decide +kernel
theorem dX0_leastTurningChange_22 : decode cX0_leastTurningChange 22 = .ok (.aload_n 3, 1) := by decide +kernel
theorem dX0_leastTurningChange_23 : decode cX0_leastTurningChange 23 = .ok (.invokevirtual 82, 3) := by decide +kernel
theorem dX0_leastTurningChange_26 : decode cX0_leastTurningChange 26 = .ok (.ifCond .eq 38, 3) := by decide +kernel
theorem dX0_leastTurningChange_29 : decode cX0_leastTurningChange 29 = .ok (.aload_n 0, 1) := by decide +kernel
theorem dX0_leastTurningChange_30 : decode cX0_leastTurningChange 30 = .ok (.iload_n 1, 1) := by decide +kernel
theorem dX0_leastTurningChange_31 : decode cX0_leastTurningChange 31 = .ok (.iload 5, 2) := by decide +kernel
theorem dX0_leastTurningChange_33 : decode cX0_leastTurningChange 33 = .ok (.iload_n 2, 1) := by decide +kernel
theorem dX0_leastTurningChange_34 : decode cX0_leastTurningChange 34 = .ok (.invokevirtual 94, 3) := by decide +kernel
theorem dX0_leastTurningChange_37 : decode cX0_leastTurningChange 37 = .ok (.istore 6, 2) := by decide +kernel
theorem dX0_leastTurningChange_39 : decode cX0_leastTurningChange 39 = .ok (.iload 6, 2) := by decide +kernel
theorem dX0_leastTurningChange_41 : decode cX0_leastTurningChange 41 = .ok (.ifCond .eq 23, 3) := by decide +kernel
theorem dX0_leastTurningChange_44 : decode cX0_leastTurningChange 44 = .ok (.iload 4, 2) := by decide +kernel
theorem dX0_leastTurningChange_46 : decode cX0_leastTurningChange 46 = .ok (.ifCond .eq 14, 3) := by decide +kernel
theorem dX0_leastTurningChange_49 : decode cX0_leastTurningChange 49 = .ok (.aload_n 0, 1) := by decide +kernel
theorem dX0_leastTurningChange_50 : decode cX0_leastTurningChange 50 = .ok (.iload 6, 2) := by decide +kernel
theorem dX0_leastTurningChange_52 : decode cX0_leastTurningChange 52 = .ok (.iload 4, 2) := by decide +kernel
theorem dX0_leastTurningChange_54 : decode cX0_leastTurningChange 54 = .ok (.invokevirtual 98, 3) := by decide +kernel
theorem dX0_leastTurningChange_57 : decode cX0_leastTurningChange 57 = .ok (.ifCond .eq 7, 3) := by decide +kernel
theorem dX0_leastTurningChange_60 : decode cX0_leastTurningChange 60 = .ok (.iload 6, 2) := by decide +kernel
theorem dX0_leastTurningChange_62 : decode cX0_leastTurningChange 62 = .ok (.istore 4, 2) := by decide +kernel
theorem dX0_leastTurningChange_64 : decode cX0_leastTurningChange 64 = .ok (.iinc 5 1, 3) := by decide +kernel
theorem dX0_leastTurningChange_67 : decode cX0_leastTurningChange 67 = .ok (.goto (-61), 3) := by decide +kernel
theorem dX0_leastTurningChange_70 : decode cX0_leastTurningChange 70 = .ok (.iload 4, 2) := by decide +kernel
theorem dX0_leastTurningChange_72 : decode cX0_leastTurningChange 72 = .ok (.ireturn, 1) := by decide +kernel
theorem dX0_isLessChange_0 : decode cX0_isLessChange 0 = .ok (.iload_n 1, 1) := by decide +kernel
theorem dX0_isLessChange_1 : decode cX0_isLessChange 1 = .ok (.invokestatic 101, 3) := by decide +kernel
theorem dX0_isLessChange_4 : decode cX0_isLessChange 4 = .ok (.istore_n 3, 1) := by decide +kernel
theorem dX0_isLessChange_5 : decode cX0_isLessChange 5 = .ok (.iload_n 2, 1) := by decide +kernel
theorem dX0_isLessChange_6 : decode cX0_isLessChange 6 = .ok (.invokestatic 101, 3) := by decide +kernel
theorem dX0_isLessChange_9 : decode cX0_isLessChange 9 = .ok (.istore 4, 2) := by decide +kernel
theorem dX0_isLessChange_11 : decode cX0_isLessChange 11 = .ok (.iload_n 3, 1) := by decide +kernel
theorem dX0_isLessChange_12 : decode cX0_isLessChange 12 = .ok (.iload 4, 2) := by decide +kernel
theorem dX0_isLessChange_14 : decode cX0_isLessChange 14 = .ok (.if_icmp .lt 14, 3) := by decide +kernel
theorem dX0_isLessChange_17 : decode cX0_isLessChange 17 = .ok (.iload_n 3, 1) := by decide +kernel
theorem dX0_isLessChange_18 : decode cX0_isLessChange 18 = .ok (.iload 4, 2) := by decide +kernel
theorem dX0_isLessChange_20 : decode cX0_isLessChange 20 = .ok (.if_icmp .ne 12, 3) := by decide +kernel
theorem dX0_isLessChange_23 : decode cX0_isLessChange 23 = .ok (.iload_n 1, 1) := by decide +kernel
theorem dX0_isLessChange_24 : decode cX0_isLessChange 24 = .ok (.iload_n 2, 1) := by decide +kernel
theorem dX0_isLessChange_25 : decode cX0_isLessChange 25 = .ok (.if_icmp .ge 7, 3) := by decide +kernel
theorem dX0_isLessChange_28 : decode cX0_isLessChange 28 = .ok (.iconst 1, 1) := by decide +kernel
theorem dX0_isLessChange_29 : decode cX0_isLessChange 29 = .ok (.goto 4, 3) := by decide +kernel
theorem dX0_isLessChange_32 : decode cX0_isLessChange 32 = .ok (.iconst 0, 1) := by decide +kernel
theorem dX0_isLessChange_33 : decode cX0_isLessChange 33 = .ok (.ireturn, 1) := by decide +kernel
theorem dX0_turningChange_0 : decode cX0_turningChange 0 = .ok (.aload_n 0, 1) := by decide +kernel
theorem dX0_turningChange_1 : decode cX0_turningChange 1 = .ok (.iload_n 2, 1) := by decide +kernel
theorem dX0_turningChange_2 : decode cX0_turningChange 2 = .ok (.invokevirtual 57, 3) := by decide +kernel
theorem dX0_turningChange_5 : decode cX0_turningChange 5 = .ok (.aload_n 0, 1) := by decide +kernel
theorem dX0_turningChange_6 : decode cX0_turningChange 6 = .ok (.iload_n 1, 1) := by decide +kernel
theorem dX0_turningChange_7 : decode cX0_turningChange 7 = .ok (.invokevirtual 57, 3) := by decide +kernel
theorem dX0_turningChange_10 : decode cX0_turningChange 10 = .ok (.lsub, 1) := by decide +kernel
theorem dX0_turningChange_11 : decode cX0_turningChange 11 = .ok (.lstore 4, 2) := by decide +kernel
theorem dX0_turningChange_13 : decode cX0_turningChange 13 = .ok (.aload_n 0, 1) := by decide +kernel
theorem dX0_turningChange_14 : decode cX0_turningChange 14 = .ok (.iload_n 2, 1) := by decide +kernel
theorem dX0_turningChange_15 : decode cX0_turningChange 15 = .ok (.iload_n 3, 1) := by decide +kernel
theorem dX0_turningChange_16 : decode cX0_turningChange 16 = .ok (.invokevirtual 45, 3) := by decide +kernel
theorem dX0_turningChange_19 : decode cX0_turningChange 19 = .ok (.aload_n 0, 1) := by decide +kernel
theorem dX0_turningChange_20 : decode cX0_turningChange 20 = .ok (.iload_n 1, 1) := by decide +kernel
theorem dX0_turningChange_21 : decode cX0_turningChange 21 = .ok (.iload_n 3, 1) := by decide +kernel
theorem dX0_turningChange_22 : decode cX0_turningChange 22 = .ok (.invokevirtual 45, 3) := by decide +kernel
theorem dX0_turningChange_25 : decode cX0_turningChange 25 = .ok (.isub, 1) := by decide +kernel
theorem dX0_turningChange_26 : decode cX0_turningChange 26 = .ok (.i2l, 1) := by decide +kernel
theorem dX0_turningChange_27 : decode cX0_turningChange 27 = .ok (.lstore 6, 2) := by decide +kernel
theorem dX0_turningChange_29 : decode cX0_turningChange 29 = .ok (.iconst 1, 1) := by decide +kernel
theorem dX0_turningChange_30 : decode cX0_turningChange 30 = .ok (.istore 8, 2) := by decide +kernel
theorem dX0_turningChange_32 : decode cX0_turningChange 32 = .ok (.iload 8, 2) := by decide +kernel
theorem dX0_turningChange_34 : decode cX0_turningChange 34 = .ok (.bipush 100, 2) := by decide +kernel
theorem dX0_turningChange_36 : decode cX0_turningChange 36 = .ok (.if_icmp .gt 63, 3) := by decide +kernel
theorem dX0_turningChange_39 : decode cX0_turningChange 39 = .ok (.aload_n 0, 1) := by decide +kernel
theorem dX0_turningChange_40 : decode cX0_turningChange 40 = .ok (.iload_n 2, 1) := by decide +kernel
theorem dX0_turningChange_41 : decode cX0_turningChange 41 = .ok (.iload_n 1, 1) := by decide +kernel
theorem dX0_turningChange_42 : decode cX0_turningChange 42 = .ok (.lload 4, 2) := by decide +kernel
theorem dX0_turningChange_44 : decode cX0_turningChange 44 = .ok (.lload 6, 2) := by decide +kernel
theorem dX0_turningChange_46 : decode cX0_turningChange 46 = .ok (.aload_n 0, 1) := by decide +kernel
theorem dX0_turningChange_47 : decode cX0_turningChange 47 = .ok (.iload_n 3, 1) := by decide +kernel
theorem dX0_turningChange_48 : decode cX0_turningChange 48 = .ok (.iload 8, 2) := by decide +kernel
theorem dX0_turningChange_50 : decode cX0_turningChange 50 = .ok (.ineg, 1) := by decide +kernel
theorem dX0_turningChange_51 : decode cX0_turningChange 51 = .ok (.invokevirtual 107, 3) := by decide +kernel
theorem dX0_turningChange_54 : decode cX0_turningChange 54 = .ok (.i2l, 1) := by decide +kernel
theorem dX0_turningChange_55 : decode cX0_turningChange 55 = .ok (.lmul, 1) := by decide +kernel
theorem dX0_turningChange_56 : decode cX0_turningChange 56 = .ok (.ladd, 1) := by decide +kernel
theorem dX0_turningChange_57 : decode cX0_turningChange 57 = .ok (.invokevirtual 86, 3) := by decide +kernel
theorem dX0_turningChange_60 : decode cX0_turningChange 60 = .ok (.ifCond .eq 7, 3) := by decide +kernel
theorem dX0_turningChange_63 : decode cX0_turningChange 63 = .ok (.iload 8, 2) := by decide +kernel
theorem dX0_turningChange_65 : decode cX0_turningChange 65 = .ok (.ineg, 1) := by decide +kernel
theorem dX0_turningChange_66 : decode cX0_turningChange 66 = .ok (.ireturn, 1) := by decide +kernel
theorem dX0_turningChange_67 : decode cX0_turningChange 67 = .ok (.aload_n 0, 1) := by decide +kernel
theorem dX0_turningChange_68 : decode cX0_turningChange 68 = .ok (.iload_n 2, 1) := by decide +kernel
theorem dX0_turningChange_69 : decode cX0_turningChange 69 = .ok (.iload_n 1, 1) := by decide +kernel
theorem dX0_turningChange_70 : decode cX0_turningChange 70 = .ok (.lload 4, 2) := by decide +kernel
theorem dX0_turningChange_72 : decode cX0_turningChange 72 = .ok (.lload 6, 2) := by decide +kernel
theorem dX0_turningChange_74 : decode cX0_turningChange 74 = .ok (.aload_n 0, 1) := by decide +kernel
theorem dX0_turningChange_75 : decode cX0_turningChange 75 = .ok (.iload_n 3, 1) := by decide +kernel
theorem dX0_turningChange_76 : decode cX0_turningChange 76 = .ok (.iload 8, 2) := by decide +kernel
theorem dX0_turningChange_78 : decode cX0_turningChange 78 = .ok (.invokevirtual 107, 3) := by decide +kernel
theorem dX0_turningChange_81 : decode cX0_turningChange 81 = .ok (.i2l, 1) := by decide +kernel
theorem dX0_turningChange_82 : decode cX0_turningChange 82 = .ok (.lmul, 1) := by decide +kernel
theorem dX0_turningChange_83 : decode cX0_turningChange 83 = .ok (.ladd, 1) := by decide +kernel
theorem dX0_turningChange_84 : decode cX0_turningChange 84 = .ok (.invokevirtual 86, 3) := by decide +kernel
theorem dX0_turningChange_87 : decode cX0_turningChange 87 = .ok (.ifCond .eq 6, 3) := by decide +kernel
theorem dX0_turningChange_90 : decode cX0_turningChange 90 = .ok (.iload 8, 2) := by decide +kernel
theorem dX0_turningChange_92 : decode cX0_turningChange 92 = .ok (.ireturn, 1) := by decide +kernel
theorem dX0_turningChange_93 : decode cX0_turningChange 93 = .ok (.iinc 8 1, 3) := by decide +kernel
theorem dX0_turningChange_96 : decode cX0_turningChange 96 = .ok (.goto (-64), 3) := by decide +kernel
theorem dX0_turningChange_99 : decode cX0_turningChange 99 = .ok (.iconst 0, 1) := by decide +kernel
theorem dX0_turningChange_100 : decode cX0_turningChange 100 = .ok (.ireturn, 1) := by decide +kernel
theorem dX0_growth_0 : decode cX0_growth 0 = .ok (.aload_n 0, 1) := by decide +kernel
theorem dX0_growth_1 : decode cX0_growth 1 = .ok (.getfield 9, 3) := by decide +kernel
theorem dX0_growth_4 : decode cX0_growth 4 = .ok (.iload_n 1, 1) := by decide +kernel
theorem dX0_growth_5 : decode cX0_growth 5 = .ok (.iaload, 1) := by decide +kernel
theorem dX0_growth_6 : decode cX0_growth 6 = .ok (.bipush 100, 2) := by decide +kernel
theorem dX0_growth_8 : decode cX0_growth 8 = .ok (.iload_n 2, 1) := by decide +kernel
theorem dX0_growth_9 : decode cX0_growth 9 = .ok (.iadd, 1) := by decide +kernel
theorem dX0_growth_10 : decode cX0_growth 10 = .ok (.imul, 1) := by decide +kernel
theorem dX0_growth_11 : decode cX0_growth 11 = .ok (.bipush 100, 2) := by decide +kernel
theorem dX0_growth_13 : decode cX0_growth 13 = .ok (.idiv, 1) := by decide +kernel
theorem dX0_growth_14 : decode cX0_growth 14 = .ok (.aload_n 0, 1) := by decide +kernel
theorem dX0_growth_15 : decode cX0_growth 15 = .ok (.getfield 9, 3) := by decide +kernel
theorem dX0_growth_18 : decode cX0_growth 18 = .ok (.iload_n 1, 1) := by decide +kernel
theorem dX0_growth_19 : decode cX0_growth 19 = .ok (.iaload, 1) := by decide +kernel
theorem dX0_growth_20 : decode cX0_growth 20 = .ok (.isub, 1) := by decide +kernel
theorem dX0_growth_21 : decode cX0_growth 21 = .ok (.ireturn, 1) := by decide +kernel
theorem dX0_leastRateToWin_0 : decode cX0_leastRateToWin 0 = .ok (.aload_n 0, 1) := by decide +kernel
theorem dX0_leastRateToWin_1 : decode cX0_leastRateToWin 1 = .ok (.iload_n 1, 1) := by decide +kernel
theorem dX0_leastRateToWin_2 : decode cX0_leastRateToWin 2 = .ok (.invokevirtual 49, 3) := by decide +kernel
theorem dX0_leastRateToWin_5 : decode cX0_leastRateToWin 5 = .ok (.ifCond .eq 21, 3) := by decide +kernel
theorem dX0_leastRateToWin_8 : decode cX0_leastRateToWin 8 = .ok (.iload_n 1, 1) := by decide +kernel
theorem dX0_leastRateToWin_9 : decode cX0_leastRateToWin 9 = .ok (.aload_n 0, 1) := by decide +kernel
theorem dX0_leastRateToWin_10 : decode cX0_leastRateToWin 10 = .ok (.getfield 24, 3) := by decide +kernel
theorem dX0_leastRateToWin_13 : decode cX0_leastRateToWin 13 = .ok (.if_icmp .eq 13, 3) := by decide +kernel
theorem dX0_leastRateToWin_16 : decode cX0_leastRateToWin 16 = .ok (.aload_n 0, 1) := by decide +kernel
theorem dX0_leastRateToWin_17 : decode cX0_leastRateToWin 17 = .ok (.iload_n 1, 1) := by decide +kernel
theorem dX0_leastRateToWin_18 : decode cX0_leastRateToWin 18 = .ok (.iload_n 2, 1) := by decide +kernel
theorem dX0_leastRateToWin_19 : decode cX0_leastRateToWin 19 = .ok (.aload_n 3, 1) := by decide +kernel
theorem dX0_leastRateToWin_20 : decode cX0_leastRateToWin 20 = .ok (.invokevirtual 53, 3) := by decide +kernel
theorem dX0_leastRateToWin_23 : decode cX0_leastRateToWin 23 = .ok (.ifCond .eq 5, 3) := by decide +kernel
theorem dX0_leastRateToWin_26 : decode cX0_leastRateToWin 26 = .ok (.iconst (-1), 1) := by decide +kernel
theorem dX0_leastRateToWin_27 : decode cX0_leastRateToWin 27 = .ok (.ireturn, 1) := by decide +kernel
theorem dX0_leastRateToWin_28 : decode cX0_leastRateToWin 28 = .ok (.aload_n 0, 1) := by decide +kernel
theorem dX0_leastRateToWin_29 : decode cX0_leastRateToWin 29 = .ok (.getfield 9, 3) := by decide +kernel
theorem dX0_leastRateToWin_32 : decode cX0_leastRateToWin 32 = .ok (.iload_n 2, 1) := by decide +kernel
theorem dX0_leastRateToWin_33 : decode cX0_leastRateToWin 33 = .ok (.iaload, 1) := by decide +kernel
theorem dX0_leastRateToWin_34 : decode cX0_leastRateToWin 34 = .ok (.i2l, 1) := by decide +kernel
theorem dX0_leastRateToWin_35 : decode cX0_leastRateToWin 35 = .ok (.lstore 4, 2) := by decide +kernel
theorem dX0_leastRateToWin_37 : decode cX0_leastRateToWin 37 = .ok (.aload_n 0, 1) := by decide +kernel
theorem dX0_leastRateToWin_38 : decode cX0_leastRateToWin 38 = .ok (.iload_n 1, 1) := by decide +kernel
theorem dX0_leastRateToWin_39 : decode cX0_leastRateToWin 39 = .ok (.invokevirtual 57, 3) := by decide +kernel
theorem dX0_leastRateToWin_42 : decode cX0_leastRateToWin 42 = .ok (.aload_n 0, 1) := by decide +kernel
theorem dX0_leastRateToWin_43 : decode cX0_leastRateToWin 43 = .ok (.iload_n 1, 1) := by decide +kernel
theorem dX0_leastRateToWin_44 : decode cX0_leastRateToWin 44 = .ok (.iload_n 2, 1) := by decide +kernel
theorem dX0_leastRateToWin_45 : decode cX0_leastRateToWin 45 = .ok (.invokevirtual 45, 3) := by decide +kernel
theorem dX0_leastRateToWin_48 : decode cX0_leastRateToWin 48 = .ok (.i2l, 1) := by decide +kernel
theorem dX0_leastRateToWin_49 : decode cX0_leastRateToWin 49 = .ok (.lload 4, 2) := by decide +kernel
theorem dX0_leastRateToWin_51 : decode cX0_leastRateToWin 51 = .ok (.lmul, 1) := by decide +kernel
theorem dX0_leastRateToWin_52 : decode cX0_leastRateToWin 52 = .ok (.lsub, 1) := by decide +kernel
theorem dX0_leastRateToWin_53 : decode cX0_leastRateToWin 53 = .ok (.lstore 6, 2) := by decide +kernel
theorem dX0_leastRateToWin_55 : decode cX0_leastRateToWin 55 = .ok (.aload_n 0, 1) := by decide +kernel
theorem dX0_leastRateToWin_56 : decode cX0_leastRateToWin 56 = .ok (.iload_n 1, 1) := by decide +kernel
theorem dX0_leastRateToWin_57 : decode cX0_leastRateToWin 57 = .ok (.aload_n 3, 1) := by decide +kernel
theorem dX0_leastRateToWin_58 : decode cX0_leastRateToWin 58 = .ok (.invokevirtual 110, 3) := by decide +kernel
theorem dX0_leastRateToWin_61 : decode cX0_leastRateToWin 61 = .ok (.lload 6, 2) := by decide +kernel
theorem dX0_leastRateToWin_63 : decode cX0_leastRateToWin 63 = .ok (.lsub, 1) := by decide +kernel
theorem dX0_leastRateToWin_64 : decode cX0_leastRateToWin 64 = .ok (.lstore 8, 2) := by decide +kernel
theorem dX0_leastRateToWin_66 : decode cX0_leastRateToWin 66 = .ok (.aload_n 3, 1) := by decide +kernel
theorem dX0_leastRateToWin_67 : decode cX0_leastRateToWin 67 = .ok (.getfield 70, 3) := by decide +kernel
theorem dX0_leastRateToWin_70 : decode cX0_leastRateToWin 70 = .ok (.iload_n 2, 1) := by decide +kernel
theorem dX0_leastRateToWin_71 : decode cX0_leastRateToWin 71 = .ok (.iaload, 1) := by decide +kernel
theorem dX0_leastRateToWin_72 : decode cX0_leastRateToWin 72 = .ok (.i2l, 1) := by decide +kernel
theorem dX0_leastRateToWin_73 : decode cX0_leastRateToWin 73 = .ok (.lstore 10, 2) := by decide +kernel
theorem dX0_leastRateToWin_75 : decode cX0_leastRateToWin 75 = .ok (.lload 10, 2) := by decide +kernel
theorem dX0_leastRateToWin_77 : decode cX0_leastRateToWin 77 = .ok (.lload 4, 2) := by decide +kernel
theorem dX0_leastRateToWin_79 : decode cX0_leastRateToWin 79 = .ok (.lmul, 1) := by decide +kernel
theorem dX0_leastRateToWin_80 : decode cX0_leastRateToWin 80 = .ok (.lload 8, 2) := by decide +kernel
theorem dX0_leastRateToWin_82 : decode cX0_leastRateToWin 82 = .ok (.lcmp, 1) := by decide +kernel
theorem dX0_leastRateToWin_83 : decode cX0_leastRateToWin 83 = .ok (.ifCond .ge 24, 3) := by decide +kernel
theorem dX0_leastRateToWin_86 : decode cX0_leastRateToWin 86 = .ok (.lload 4, 2) := by decide +kernel
theorem dX0_leastRateToWin_88 : decode cX0_leastRateToWin 88 = .ok (.lconst 0, 1) := by decide +kernel
theorem dX0_leastRateToWin_89 : decode cX0_leastRateToWin 89 = .ok (.lcmp, 1) := by decide +kernel
theorem dX0_leastRateToWin_90 : decode cX0_leastRateToWin 90 = .ok (.ifCond .ne 5, 3) := by decide +kernel
theorem dX0_leastRateToWin_93 : decode cX0_leastRateToWin 93 = .ok (.iconst (-1), 1) := by decide +kernel
theorem dX0_leastRateToWin_94 : decode cX0_leastRateToWin 94 = .ok (.ireturn, 1) := by decide +kernel
theorem dX0_leastRateToWin_95 : decode cX0_leastRateToWin 95 = .ok (.lload 8, 2) := by decide +kernel
theorem dX0_leastRateToWin_97 : decode cX0_leastRateToWin 97 = .ok (.lload 4, 2) := by decide +kernel
theorem dX0_leastRateToWin_99 : decode cX0_leastRateToWin 99 = .ok (.ladd, 1) := by decide +kernel
theorem dX0_leastRateToWin_100 : decode cX0_leastRateToWin 100 = .ok (.lconst 1, 1) := by decide +kernel
theorem dX0_leastRateToWin_101 : decode cX0_leastRateToWin 101 = .ok (.lsub, 1) := by decide +kernel
theorem dX0_leastRateToWin_102 : decode cX0_leastRateToWin 102 = .ok (.lload 4, 2) := by decide +kernel
theorem dX0_leastRateToWin_104 : decode cX0_leastRateToWin 104 = .ok (.ldiv, 1) := by decide +kernel
theorem dX0_leastRateToWin_105 : decode cX0_leastRateToWin 105 = .ok (.lstore 10, 2) := by decide +kernel
theorem dX0_leastRateToWin_107 : decode cX0_leastRateToWin 107 = .ok (.lload 10, 2) := by decide +kernel
theorem dX0_leastRateToWin_109 : decode cX0_leastRateToWin 109 = .ok (.ldc2_w 114, 3) := by decide +kernel
theorem dX0_leastRateToWin_112 : decode cX0_leastRateToWin 112 = .ok (.lcmp, 1) := by decide +kernel
theorem dX0_leastRateToWin_113 : decode cX0_leastRateToWin 113 = .ok (.ifCond .gt 20, 3) := by decide +kernel
theorem dX0_leastRateToWin_116 : decode cX0_leastRateToWin 116 = .ok (.aload_n 0, 1) := by decide +kernel
theorem dX0_leastRateToWin_117 : decode cX0_leastRateToWin 117 = .ok (.iload_n 1, 1) := by decide +kernel
theorem dX0_leastRateToWin_118 : decode cX0_leastRateToWin 118 = .ok (.lload 6, 2) := by decide +kernel
theorem dX0_leastRateToWin_120 : decode cX0_leastRateToWin 120 = .ok (.lload 10, 2) := by decide +kernel
theorem dX0_leastRateToWin_122 : decode cX0_leastRateToWin 122 = .ok (.lload 4, 2) := by decide +kernel
theorem dX0_leastRateToWin_124 : decode cX0_leastRateToWin 124 = .ok (.lmul, 1) := by decide +kernel
theorem dX0_leastRateToWin_125 : decode cX0_leastRateToWin 125 = .ok (.ladd, 1) := by decide +kernel
theorem dX0_leastRateToWin_126 : decode cX0_leastRateToWin 126 = .ok (.aload_n 3, 1) := by decide +kernel
theorem dX0_leastRateToWin_127 : decode cX0_leastRateToWin 127 = .ok (.invokevirtual 61, 3) := by decide +kernel
theorem dX0_leastRateToWin_130 : decode cX0_leastRateToWin 130 = .ok (.ifCond .eq 5, 3) := by decide +kernel
theorem dX0_leastRateToWin_133 : decode cX0_leastRateToWin 133 = .ok (.iconst (-1), 1) := by decide +kernel
theorem dX0_leastRateToWin_134 : decode cX0_leastRateToWin 134 = .ok (.ireturn, 1) := by decide +kernel
theorem dX0_leastRateToWin_135 : decode cX0_leastRateToWin 135 = .ok (.lload 10, 2) := by decide +kernel
theorem dX0_leastRateToWin_137 : decode cX0_leastRateToWin 137 = .ok (.l2i, 1) := by decide +kernel
theorem dX0_leastRateToWin_138 : decode cX0_leastRateToWin 138 = .ok (.ireturn, 1) := by decide +kernel
theorem dX0_leastValueToWin_0 : decode cX0_leastValueToWin 0 = .ok (.lconst 0, 1) := by decide +kernel
theorem dX0_leastValueToWin_1 : decode cX0_leastValueToWin 1 = .ok (.lstore_n 3, 1) := by decide +kernel
theorem dX0_leastValueToWin_2 : decode cX0_leastValueToWin 2 = .ok (.iconst 0, 1) := by decide +kernel
theorem dX0_leastValueToWin_3 : decode cX0_leastValueToWin 3 = .ok (.istore 5, 2) := by decide +kernel
theorem dX0_leastValueToWin_5 : decode cX0_leastValueToWin 5 = .ok (.iload 5, 2) := by decide +kernel
theorem dX0_leastValueToWin_7 : decode cX0_leastValueToWin 7 = .ok (.bipush 8, 2) := by decide +kernel
theorem dX0_leastValueToWin_9 : decode cX0_leastValueToWin 9 = .ok (.if_icmp .ge 62, 3) := by decide +kernel
theorem dX0_leastValueToWin_12 : decode cX0_leastValueToWin 12 = .ok (.iload 5, 2) := by decide +kernel
theorem dX0_leastValueToWin_14 : decode cX0_leastValueToWin 14 = .ok (.iload_n 1, 1) := by decide +kernel
theorem dX0_leastValueToWin_15 : decode cX0_leastValueToWin 15 = .ok (.if_icmp .eq 50, 3) := by decide +kernel
theorem dX0_leastValueToWin_18 : decode cX0_leastValueToWin 18 = .ok (.aload_n 0, 1) := by decide +kernel
theorem dX0_leastValueToWin_19 : decode cX0_leastValueToWin 19 = .ok (.iload 5, 2) := by decide +kernel
theorem dX0_leastValueToWin_21 : decode cX0_leastValueToWin 21 = .ok (.aload_n 2, 1) := by decide +kernel
theorem dX0_leastValueToWin_22 : decode cX0_leastValueToWin 22 = .ok (.invokevirtual 82, 3) := by decide +kernel
theorem dX0_leastValueToWin_25 : decode cX0_leastValueToWin 25 = .ok (.ifCond .eq 40, 3) := by decide +kernel
theorem dX0_leastValueToWin_28 : decode cX0_leastValueToWin 28 = .ok (.aload_n 0, 1) := by decide +kernel
theorem dX0_leastValueToWin_29 : decode cX0_leastValueToWin 29 = .ok (.getfield 21, 3) := by decide +kernel
theorem dX0_leastValueToWin_32 : decode cX0_leastValueToWin 32 = .ok (.iload_n 1, 1) := by decide +kernel
theorem dX0_leastValueToWin_33 : decode cX0_leastValueToWin 33 = .ok (.iaload, 1) := by decide +kernel
theorem dX0_leastValueToWin_34 : decode cX0_leastValueToWin 34 = .ok (.aload_n 0, 1) := by decide +kernel
theorem dX0_leastValueToWin_35 : decode cX0_leastValueToWin 35 = .ok (.getfield 21, 3) := by decide +kernel
theorem dX0_leastValueToWin_38 : decode cX0_leastValueToWin 38 = .ok (.iload 5, 2) := by decide +kernel
theorem dX0_leastValueToWin_40 : decode cX0_leastValueToWin 40 = .ok (.iaload, 1) := by decide +kernel
theorem dX0_leastValueToWin_41 : decode cX0_leastValueToWin 41 = .ok (.if_icmp .ge 7, 3) := by decide +kernel
theorem dX0_leastValueToWin_44 : decode cX0_leastValueToWin 44 = .ok (.lconst 0, 1) := by decide +kernel
theorem dX0_leastValueToWin_45 : decode cX0_leastValueToWin 45 = .ok (.goto 4, 3) := by decide +kernel
theorem dX0_leastValueToWin_48 : decode cX0_leastValueToWin 48 = .ok (.lconst 1, 1) := by decide +kernel
theorem dX0_leastValueToWin_49 : decode cX0_leastValueToWin 49 = .ok (.lstore 6, 2) := by decide +kernel
theorem dX0_leastValueToWin_51 : decode cX0_leastValueToWin 51 = .ok (.lload_n 3, 1) := by decide +kernel
theorem dX0_leastValueToWin_52 : decode cX0_leastValueToWin 52 = .ok (.aload_n 0, 1) := by decide +kernel
theorem dX0_leastValueToWin_53 : decode cX0_leastValueToWin 53 = .ok (.iload 5, 2) := by decide +kernel
theorem dX0_leastValueToWin_55 : decode cX0_leastValueToWin 55 = .ok (.invokevirtual 57, 3) := by decide +kernel
theorem dX0_leastValueToWin_58 : decode cX0_leastValueToWin 58 = .ok (.lload 6, 2) := by decide +kernel
theorem dX0_leastValueToWin_60 : decode cX0_leastValueToWin 60 = .ok (.ladd, 1) := by decide +kernel
theorem dX0_leastValueToWin_61 : decode cX0_leastValueToWin 61 = .ok (.invokestatic 116, 3) := by decide +kernel
theorem dX0_leastValueToWin_64 : decode cX0_leastValueToWin 64 = .ok (.lstore_n 3, 1) := by decide +kernel
theorem dX0_leastValueToWin_65 : decode cX0_leastValueToWin 65 = .ok (.iinc 5 1, 3) := by decide +kernel
theorem dX0_leastValueToWin_68 : decode cX0_leastValueToWin 68 = .ok (.goto (-63), 3) := by decide +kernel
theorem dX0_leastValueToWin_71 : decode cX0_leastValueToWin 71 = .ok (.lload_n 3, 1) := by decide +kernel
theorem dX0_leastValueToWin_72 : decode cX0_leastValueToWin 72 = .ok (.lreturn, 1) := by decide +kernel
theorem dX1_init_0 : decode cX1_init 0 = .ok (.aload_n 0, 1) := by decide +kernel
theorem dX1_init_1 : decode cX1_init 1 = .ok (.invokespecial 3, 3) := by decide +kernel
theorem dX1_init_4 : decode cX1_init 4 = .ok (.aload_n 0, 1) := by decide +kernel
theorem dX1_init_5 : decode cX1_init 5 = .ok (.bipush 6, 2) := by decide +kernel
theorem dX1_init_7 : decode cX1_init 7 = .ok (.newarray .int, 2) := by decide +kernel
theorem dX1_init_9 : decode cX1_init 9 = .ok (.putfield 9, 3) := by decide +kernel
theorem dX1_init_12 : decode cX1_init 12 = .ok (.aload_n 0, 1) := by decide +kernel
theorem dX1_init_13 : decode cX1_init 13 = .ok (.bipush 6, 2) := by decide +kernel
theorem dX1_init_15 : decode cX1_init 15 = .ok (.newarray .int, 2) := by decide +kernel
theorem dX1_init_17 : decode cX1_init 17 = .ok (.putfield 15, 3) := by decide +kernel
theorem dX1_init_20 : decode cX1_init 20 = .ok (.aload_n 0, 1) := by decide +kernel
theorem dX1_init_21 : decode cX1_init 21 = .ok (.bipush 72, 2) := by decide +kernel
theorem dX1_init_23 : decode cX1_init 23 = .ok (.newarray .int, 2) := by decide +kernel
theorem dX1_init_25 : decode cX1_init 25 = .ok (.putfield 18, 3) := by decide +kernel
theorem dX1_init_28 : decode cX1_init 28 = .ok (.aload_n 0, 1) := by decide +kernel
theorem dX1_init_29 : decode cX1_init 29 = .ok (.bipush 36, 2) := by decide +kernel
theorem dX1_init_31 : decode cX1_init 31 = .ok (.newarray .long, 2) := by decide +kernel
theorem dX1_init_33 : decode cX1_init 33 = .ok (.putfield 21, 3) := by decide +kernel
theorem dX1_init_36 : decode cX1_init 36 = .ok (.aload_n 0, 1) := by decide +kernel
theorem dX1_init_37 : decode cX1_init 37 = .ok (.iconst (-1), 1) := by decide +kernel
theorem dX1_init_38 : decode cX1_init 38 = .ok (.putfield 25, 3) := by decide +kernel
theorem dX1_init_41 : decode cX1_init 41 = .ok (.return_, 1) := by decide +kernel
theorem dX1_clear_0 : decode cX1_clear 0 = .ok (.aload_n 0, 1) := by decide +kernel
theorem dX1_clear_1 : decode cX1_clear 1 = .ok (.getfield 9, 3) := by decide +kernel
theorem dX1_clear_4 : decode cX1_clear 4 = .ok (.iconst 0, 1) := by decide +kernel
theorem dX1_clear_5 : decode cX1_clear 5 = .ok (.invokestatic 29, 3) := by decide +kernel
theorem dX1_clear_8 : decode cX1_clear 8 = .ok (.aload_n 0, 1) := by decide +kernel
theorem dX1_clear_9 : decode cX1_clear 9 = .ok (.getfield 15, 3) := by decide +kernel
theorem dX1_clear_12 : decode cX1_clear 12 = .ok (.iconst 0, 1) := by decide +kernel
theorem dX1_clear_13 : decode cX1_clear 13 = .ok (.invokestatic 29, 3) := by decide +kernel
theorem dX1_clear_16 : decode cX1_clear 16 = .ok (.aload_n 0, 1) := by decide +kernel
theorem dX1_clear_17 : decode cX1_clear 17 = .ok (.getfield 18, 3) := by decide +kernel
theorem dX1_clear_20 : decode cX1_clear 20 = .ok (.iconst 0, 1) := by decide +kernel
theorem dX1_clear_21 : decode cX1_clear 21 = .ok (.invokestatic 29, 3) := by decide +kernel
theorem dX1_clear_24 : decode cX1_clear 24 = .ok (.aload_n 0, 1) := by decide +kernel
theorem dX1_clear_25 : decode cX1_clear 25 = .ok (.getfield 21, 3) := by decide +kernel
theorem dX1_clear_28 : decode cX1_clear 28 = .ok (.lconst 0, 1) := by decide +kernel
theorem dX1_clear_29 : decode cX1_clear 29 = .ok (.invokestatic 35, 3) := by decide +kernel
theorem dX1_clear_32 : decode cX1_clear 32 = .ok (.aload_n 0, 1) := by decide +kernel
theorem dX1_clear_33 : decode cX1_clear 33 = .ok (.iconst (-1), 1) := by decide +kernel
theorem dX1_clear_34 : decode cX1_clear 34 = .ok (.putfield 25, 3) := by decide +kernel
theorem dX1_clear_37 : decode cX1_clear 37 = .ok (.aload_n 0, 1) := by decide +kernel
theorem dX1_clear_38 : decode cX1_clear 38 = .ok (.iconst 0, 1) := by decide +kernel
theorem dX1_clear_39 : decode cX1_clear 39 = .ok (.putfield 38, 3) := by decide +kernel
theorem dX1_clear_42 : decode cX1_clear 42 = .ok (.aload_n 0, 1) := by decide +kernel
theorem dX1_clear_43 : decode cX1_clear 43 = .ok (.iconst 0, 1) := by decide +kernel
theorem dX1_clear_44 : decode cX1_clear 44 = .ok (.putfield 41, 3) := by decide +kernel
theorem dX1_clear_47 : decode cX1_clear 47 = .ok (.aload_n 0, 1) := by decide +kernel
theorem dX1_clear_48 : decode cX1_clear 48 = .ok (.lconst 0, 1) := by decide +kernel
theorem dX1_clear_49 : decode cX1_clear 49 = .ok (.putfield 44, 3) := by decide +kernel
theorem dX1_clear_52 : decode cX1_clear 52 = .ok (.return_, 1) := by decide +kernel
theorem dX1_copyFrom_0 : decode cX1_copyFrom 0 = .ok (.aload_n 1, 1) := by decide +kernel
theorem dX1_copyFrom_1 : decode cX1_copyFrom 1 = .ok (.getfield 9, 3) := by decide +kernel
theorem dX1_copyFrom_4 : decode cX1_copyFrom 4 = .ok (.aload_n 0, 1) := by decide +kernel
theorem dX1_copyFrom_5 : decode cX1_copyFrom 5 = .ok (.getfield 9, 3) := by decide +kernel
theorem dX1_copyFrom_8 : decode cX1_copyFrom 8 = .ok (.invokestatic 48, 3) := by decide +kernel
theorem dX1_copyFrom_11 : decode cX1_copyFrom 11 = .ok (.aload_n 1, 1) := by decide +kernel
theorem dX1_copyFrom_12 : decode cX1_copyFrom 12 = .ok (.getfield 15, 3) := by decide +kernel
theorem dX1_copyFrom_15 : decode cX1_copyFrom 15 = .ok (.aload_n 0, 1) := by decide +kernel
theorem dX1_copyFrom_16 : decode cX1_copyFrom 16 = .ok (.getfield 15, 3) := by decide +kernel
theorem dX1_copyFrom_19 : decode cX1_copyFrom 19 = .ok (.invokestatic 48, 3) := by decide +kernel
theorem dX1_copyFrom_22 : decode cX1_copyFrom 22 = .ok (.aload_n 1, 1) := by decide +kernel
theorem dX1_copyFrom_23 : decode cX1_copyFrom 23 = .ok (.getfield 18, 3) := by decide +kernel
theorem dX1_copyFrom_26 : decode cX1_copyFrom 26 = .ok (.aload_n 0, 1) := by decide +kernel
theorem dX1_copyFrom_27 : decode cX1_copyFrom 27 = .ok (.getfield 18, 3) := by decide +kernel
theorem dX1_copyFrom_30 : decode cX1_copyFrom 30 = .ok (.invokestatic 48, 3) := by decide +kernel
theorem dX1_copyFrom_33 : decode cX1_copyFrom 33 = .ok (.aload_n 1, 1) := by decide +kernel
theorem dX1_copyFrom_34 : decode cX1_copyFrom 34 = .ok (.getfield 21, 3) := by decide +kernel
theorem dX1_copyFrom_37 : decode cX1_copyFrom 37 = .ok (.iconst 0, 1) := by decide +kernel
theorem dX1_copyFrom_38 : decode cX1_copyFrom 38 = .ok (.aload_n 0, 1) := by decide +kernel
theorem dX1_copyFrom_39 : decode cX1_copyFrom 39 = .ok (.getfield 21, 3) := by decide +kernel
theorem dX1_copyFrom_42 : decode cX1_copyFrom 42 = .ok (.iconst 0, 1) := by decide +kernel
theorem dX1_copyFrom_43 : decode cX1_copyFrom 43 = .ok (.bipush 36, 2) := by decide +kernel
theorem dX1_copyFrom_45 : decode cX1_copyFrom 45 = .ok (.invokestatic 52, 3) := by decide +kernel
theorem dX1_copyFrom_48 : decode cX1_copyFrom 48 = .ok (.aload_n 0, 1) := by decide +kernel
theorem dX1_copyFrom_49 : decode cX1_copyFrom 49 = .ok (.aload_n 1, 1) := by decide +kernel
theorem dX1_copyFrom_50 : decode cX1_copyFrom 50 = .ok (.getfield 25, 3) := by decide +kernel
theorem dX1_copyFrom_53 : decode cX1_copyFrom 53 = .ok (.putfield 25, 3) := by decide +kernel
theorem dX1_copyFrom_56 : decode cX1_copyFrom 56 = .ok (.aload_n 0, 1) := by decide +kernel
theorem dX1_copyFrom_57 : decode cX1_copyFrom 57 = .ok (.aload_n 1, 1) := by decide +kernel
theorem dX1_copyFrom_58 : decode cX1_copyFrom 58 = .ok (.getfield 38, 3) := by decide +kernel
theorem dX1_copyFrom_61 : decode cX1_copyFrom 61 = .ok (.putfield 38, 3) := by decide +kernel
theorem dX1_copyFrom_64 : decode cX1_copyFrom 64 = .ok (.aload_n 0, 1) := by decide +kernel
theorem dX1_copyFrom_65 : decode cX1_copyFrom 65 = .ok (.aload_n 1, 1) := by decide +kernel
theorem dX1_copyFrom_66 : decode cX1_copyFrom 66 = .ok (.getfield 41, 3) := by decide +kernel
theorem dX1_copyFrom_69 : decode cX1_copyFrom 69 = .ok (.putfield 41, 3) := by decide +kernel
theorem dX1_copyFrom_72 : decode cX1_copyFrom 72 = .ok (.aload_n 0, 1) := by decide +kernel
theorem dX1_copyFrom_73 : decode cX1_copyFrom 73 = .ok (.aload_n 1, 1) := by decide +kernel
theorem dX1_copyFrom_74 : decode cX1_copyFrom 74 = .ok (.getfield 44, 3) := by decide +kernel
theorem dX1_copyFrom_77 : decode cX1_copyFrom 77 = .ok (.putfield 44, 3) := by decide +kernel
theorem dX1_copyFrom_80 : decode cX1_copyFrom 80 = .ok (.return_, 1) := by decide +kernel
theorem dX1_setIndexOf_0 : decode cX1_setIndexOf 0 = .ok (.aload_n 0, 1) := by decide +kernel
theorem dX1_setIndexOf_1 : decode cX1_setIndexOf 1 = .ok (.getfield 18, 3) := by decide +kernel
theorem dX1_setIndexOf_4 : decode cX1_setIndexOf 4 = .ok (.iload_n 1, 1) := by decide +kernel
theorem dX1_setIndexOf_5 : decode cX1_setIndexOf 5 = .ok (.bipush 12, 2) := by decide +kernel
theorem dX1_setIndexOf_7 : decode cX1_setIndexOf 7 = .ok (.imul, 1) := by decide +kernel
theorem dX1_setIndexOf_8 : decode cX1_setIndexOf 8 = .ok (.iload_n 2, 1) := by decide +kernel
theorem dX1_setIndexOf_9 : decode cX1_setIndexOf 9 = .ok (.iadd, 1) := by decide +kernel
theorem dX1_setIndexOf_10 : decode cX1_setIndexOf 10 = .ok (.iload_n 3, 1) := by decide +kernel
theorem dX1_setIndexOf_11 : decode cX1_setIndexOf 11 = .ok (.iastore, 1) := by decide +kernel
theorem dX1_setIndexOf_12 : decode cX1_setIndexOf 12 = .ok (.return_, 1) := by decide +kernel
theorem dX1_indexIn_0 : decode cX1_indexIn 0 = .ok (.iload_n 2, 1) := by decide +kernel
theorem dX1_indexIn_1 : decode cX1_indexIn 1 = .ok (.istore 4, 2) := by decide +kernel
theorem dX1_indexIn_3 : decode cX1_indexIn 3 = .ok (.iload 4, 2) := by decide +kernel
theorem dX1_indexIn_5 : decode cX1_indexIn 5 = .ok (.ifCond .lt 31, 3) := by decide +kernel
theorem dX1_indexIn_8 : decode cX1_indexIn 8 = .ok (.aload_n 0, 1) := by decide +kernel
theorem dX1_indexIn_9 : decode cX1_indexIn 9 = .ok (.getfield 18, 3) := by decide +kernel
theorem dX1_indexIn_12 : decode cX1_indexIn 12 = .ok (.iload_n 1, 1) := by decide +kernel
theorem dX1_indexIn_13 : decode cX1_indexIn 13 = .ok (.bipush 12, 2) := by decide +kernel
theorem dX1_indexIn_15 : decode cX1_indexIn 15 = .ok (.imul, 1) := by decide +kernel
theorem dX1_indexIn_16 : decode cX1_indexIn 16 = .ok (.iload 4, 2) := by decide +kernel
theorem dX1_indexIn_18 : decode cX1_indexIn 18 = .ok (.iadd, 1) := by decide +kernel
theorem dX1_indexIn_19 : decode cX1_indexIn 19 = .ok (.iaload, 1) := by decide +kernel
theorem dX1_indexIn_20 : decode cX1_indexIn 20 = .ok (.istore 5, 2) := by decide +kernel
theorem dX1_indexIn_22 : decode cX1_indexIn 22 = .ok (.iload 5, 2) := by decide +kernel
theorem dX1_indexIn_24 : decode cX1_indexIn 24 = .ok (.ifCond .le 6, 3) := by decide +kernel
theorem dX1_indexIn_27 : decode cX1_indexIn 27 = .ok (.iload 5, 2) := by decide +kernel
theorem dX1_indexIn_29 : decode cX1_indexIn 29 = .ok (.ireturn, 1) := by decide +kernel
theorem dX1_indexIn_30 : decode cX1_indexIn 30 = .ok (.iinc 4 (-1), 3) := by decide +kernel
theorem dX1_indexIn_33 : decode cX1_indexIn 33 = .ok (.goto (-30), 3) := by decide +kernel
theorem dX1_indexIn_36 : decode cX1_indexIn 36 = .ok (.aload_n 3, 1) := by decide +kernel
theorem dX1_indexIn_37 : decode cX1_indexIn 37 = .ok (.getfield 58, 3) := by decide +kernel
theorem dX1_indexIn_40 : decode cX1_indexIn 40 = .ok (.iload_n 1, 1) := by decide +kernel
theorem dX1_indexIn_41 : decode cX1_indexIn 41 = .ok (.iaload, 1) := by decide +kernel
theorem dX1_indexIn_42 : decode cX1_indexIn 42 = .ok (.ireturn, 1) := by decide +kernel
theorem dX1_adjustedRate_0 : decode cX1_adjustedRate 0 = .ok (.aload_n 0, 1) := by decide +kernel
theorem dX1_adjustedRate_1 : decode cX1_adjustedRate 1 = .ok (.iload_n 1, 1) := by decide +kernel
theorem dX1_adjustedRate_2 : decode cX1_adjustedRate 2 = .ok (.iload_n 2, 1) := by decide +kernel
theorem dX1_adjustedRate_3 : decode cX1_adjustedRate 3 = .ok (.aload_n 3, 1) := by decide +kernel
theorem dX1_adjustedRate_4 : decode cX1_adjustedRate 4 = .ok (.invokevirtual 63, 3) := by decide +kernel
theorem dX1_adjustedRate_7 : decode cX1_adjustedRate 7 = .ok (.aload_n 3, 1) := by decide +kernel
theorem dX1_adjustedRate_8 : decode cX1_adjustedRate 8 = .ok (.getfield 58, 3) := by decide +kernel
theorem dX1_adjustedRate_11 : decode cX1_adjustedRate 11 = .ok (.iload_n 1, 1) := by decide +kernel
theorem dX1_adjustedRate_12 : decode cX1_adjustedRate 12 = .ok (.iaload, 1) := by decide +kernel
theorem dX1_adjustedRate_13 : decode cX1_adjustedRate 13 = .ok (.isub, 1) := by decide +kernel
theorem dX1_adjustedRate_14 : decode cX1_adjustedRate 14 = .ok (.istore 4, 2) := by decide +kernel
theorem dX1_adjustedRate_16 : decode cX1_adjustedRate 16 = .ok (.iload 4, 2) := by decide +kernel
theorem dX1_adjustedRate_18 : decode cX1_adjustedRate 18 = .ok (.aload_n 3, 1) := by decide +kernel
theorem dX1_adjustedRate_19 : decode cX1_adjustedRate 19 = .ok (.getfield 67, 3) := by decide +kernel
theorem dX1_adjustedRate_22 : decode cX1_adjustedRate 22 = .ok (.iconst 3, 1) := by decide +kernel
theorem dX1_adjustedRate_23 : decode cX1_adjustedRate 23 = .ok (.iaload, 1) := by decide +kernel
theorem dX1_adjustedRate_24 : decode cX1_adjustedRate 24 = .ok (.imul, 1) := by decide +kernel
theorem dX1_adjustedRate_25 : decode cX1_adjustedRate 25 = .ok (.bipush 100, 2) := by decide +kernel
theorem dX1_adjustedRate_27 : decode cX1_adjustedRate 27 = .ok (.invokestatic 70, 3) := by decide +kernel
theorem dX1_adjustedRate_30 : decode cX1_adjustedRate 30 = .ok (.istore 5, 2) := by decide +kernel
theorem dX1_adjustedRate_32 : decode cX1_adjustedRate 32 = .ok (.aload_n 0, 1) := by decide +kernel
theorem dX1_adjustedRate_33 : decode cX1_adjustedRate 33 = .ok (.getfield 15, 3) := by decide +kernel
theorem dX1_adjustedRate_36 : decode cX1_adjustedRate 36 = .ok (.iload_n 1, 1) := by decide +kernel
theorem dX1_adjustedRate_37 : decode cX1_adjustedRate 37 = .ok (.iaload, 1) := by decide +kernel
theorem dX1_adjustedRate_38 : decode cX1_adjustedRate 38 = .ok (.iload 5, 2) := by decide +kernel
theorem dX1_adjustedRate_40 : decode cX1_adjustedRate 40 = .ok (.iadd, 1) := by decide +kernel
theorem dX1_adjustedRate_41 : decode cX1_adjustedRate 41 = .ok (.aload_n 3, 1) := by decide +kernel
theorem dX1_adjustedRate_42 : decode cX1_adjustedRate 42 = .ok (.getfield 76, 3) := by decide +kernel
theorem dX1_adjustedRate_45 : decode cX1_adjustedRate 45 = .ok (.iload_n 1, 1) := by decide +kernel
theorem dX1_adjustedRate_46 : decode cX1_adjustedRate 46 = .ok (.iaload, 1) := by decide +kernel
theorem dX1_adjustedRate_47 : decode cX1_adjustedRate 47 = .ok (.invokestatic 79, 3) := by decide +kernel
theorem dX1_adjustedRate_50 : decode cX1_adjustedRate 50 = .ok (.ireturn, 1) := by decide +kernel
theorem dX1_leastIndexFor_0 : decode cX1_leastIndexFor 0 = .ok (.iload_n 2, 1) := by decide +kernel
theorem dX1_leastIndexFor_1 : decode cX1_leastIndexFor 1 = .ok (.aload_n 0, 1) := by decide +kernel
theorem dX1_leastIndexFor_2 : decode cX1_leastIndexFor 2 = .ok (.getfield 15, 3) := by decide +kernel
theorem dX1_leastIndexFor_5 : decode cX1_leastIndexFor 5 = .ok (.iload_n 1, 1) := by decide +kernel
theorem dX1_leastIndexFor_6 : decode cX1_leastIndexFor 6 = .ok (.iaload, 1) := by decide +kernel
theorem dX1_leastIndexFor_7 : decode cX1_leastIndexFor 7 = .ok (.isub, 1) := by decide +kernel
theorem dX1_leastIndexFor_8 : decode cX1_leastIndexFor 8 = .ok (.istore 4, 2) := by decide +kernel
theorem dX1_leastIndexFor_10 : decode cX1_leastIndexFor 10 = .ok (.aload_n 3, 1) := by decide +kernel
theorem dX1_leastIndexFor_11 : decode cX1_leastIndexFor 11 = .ok (.getfield 67, 3) := by decide +kernel
theorem dX1_leastIndexFor_14 : decode cX1_leastIndexFor 14 = .ok (.iconst 3, 1) := by decide +kernel
theorem dX1_leastIndexFor_15 : decode cX1_leastIndexFor 15 = .ok (.iaload, 1) := by decide +kernel
theorem dX1_leastIndexFor_16 : decode cX1_leastIndexFor 16 = .ok (.istore 5, 2) := by decide +kernel
theorem dX1_leastIndexFor_18 : decode cX1_leastIndexFor 18 = .ok (.iload_n 2, 1) := by decide +kernel
theorem dX1_leastIndexFor_19 : decode cX1_leastIndexFor 19 = .ok (.aload_n 3, 1) := by decide +kernel
theorem dX1_leastIndexFor_20 : decode cX1_leastIndexFor 20 = .ok (.getfield 76, 3) := by decide +kernel
theorem dX1_leastIndexFor_23 : decode cX1_leastIndexFor 23 = .ok (.iload_n 1, 1) := by decide +kernel
theorem dX1_leastIndexFor_24 : decode cX1_leastIndexFor 24 = .ok (.iaload, 1) := by decide +kernel
theorem dX1_leastIndexFor_25 : decode cX1_leastIndexFor 25 = .ok (.if_icmp .gt 5, 3) := by decide +kernel
theorem dX1_leastIndexFor_28 : decode cX1_leastIndexFor 28 = .ok (.iconst 1, 1) := by decide +kernel
theorem dX1_leastIndexFor_29 : decode cX1_leastIndexFor 29 = .ok (.ireturn, 1) := by decide +kernel
theorem dX1_leastIndexFor_30 : decode cX1_leastIndexFor 30 = .ok (.iload 5, 2) := by decide +kernel
theorem dX1_leastIndexFor_32 : decode cX1_leastIndexFor 32 = .ok (.ifCond .ne 14, 3) := by decide +kernel
theorem dX1_leastIndexFor_35 : decode cX1_leastIndexFor 35 = .ok (.iload 4, 2) := by decide +kernel
theorem dX1_leastIndexFor_37 : decode cX1_leastIndexFor 37 = .ok (.ifCond .gt 7, 3) := by decide +kernel
theorem dX1_leastIndexFor_40 : decode cX1_leastIndexFor 40 = .ok (.iconst 1, 1) := by decide +kernel
theorem dX1_leastIndexFor_41 : decode cX1_leastIndexFor 41 = .ok (.goto 4, 3) := by decide +kernel
theorem dX1_leastIndexFor_44 : decode cX1_leastIndexFor 44 = .ok (.iconst (-1), 1) := by decide +kernel
theorem dX1_leastIndexFor_45 : decode cX1_leastIndexFor 45 = .ok (.ireturn, 1) := by decide +kernel
theorem dX1_leastIndexFor_46 : decode cX1_leastIndexFor 46 = .ok (.iload 4, 2) := by decide +kernel
theorem dX1_leastIndexFor_48 : decode cX1_leastIndexFor 48 = .ok (.ineg, 1) := by decide +kernel
theorem dX1_leastIndexFor_49 : decode cX1_leastIndexFor 49 = .ok (.bipush 100, 2) := by decide +kernel
theorem dX1_leastIndexFor_51 : decode cX1_leastIndexFor 51 = .ok (.imul, 1) := by decide +kernel
theorem dX1_leastIndexFor_52 : decode cX1_leastIndexFor 52 = .ok (.iload 5, 2) := by decide +kernel
theorem dX1_leastIndexFor_54 : decode cX1_leastIndexFor 54 = .ok (.invokestatic 70, 3) := by decide +kernel
theorem dX1_leastIndexFor_57 : decode cX1_leastIndexFor 57 = .ok (.ineg, 1) := by decide +kernel
theorem dX1_leastIndexFor_58 : decode cX1_leastIndexFor 58 = .ok (.istore 6, 2) := by decide +kernel
theorem dX1_leastIndexFor_60 : decode cX1_leastIndexFor 60 = .ok (.iconst 1, 1) := by decide +kernel
theorem dX1_leastIndexFor_61 : decode cX1_leastIndexFor 61 = .ok (.aload_n 3, 1) := by decide +kernel
theorem dX1_leastIndexFor_62 : decode cX1_leastIndexFor 62 = .ok (.getfield 58, 3) := by decide +kernel
theorem dX1_leastIndexFor_65 : decode cX1_leastIndexFor 65 = .ok (.iload_n 1, 1) := by decide +kernel
theorem dX1_leastIndexFor_66 : decode cX1_leastIndexFor 66 = .ok (.iaload, 1) := by decide +kernel
theorem dX1_leastIndexFor_67 : decode cX1_leastIndexFor 67 = .ok (.iload 6, 2) := by decide +kernel
theorem dX1_leastIndexFor_69 : decode cX1_leastIndexFor 69 = .ok (.iadd, 1) := by decide +kernel
theorem dX1_leastIndexFor_70 : decode cX1_leastIndexFor 70 = .ok (.invokestatic 79, 3) := by decide +kernel
theorem dX1_leastIndexFor_73 : decode cX1_leastIndexFor 73 = .ok (.istore 7, 2) := by decide +kernel
theorem dX1_leastIndexFor_75 : decode cX1_leastIndexFor 75 = .ok (.iload 7, 2) := by decide +kernel
theorem dX1_leastIndexFor_77 : decode cX1_leastIndexFor 77 = .ok (.sipush 10000, 3) := by decide +kernel
theorem dX1_leastIndexFor_80 : decode cX1_leastIndexFor 80 = .ok (.if_icmp .gt 8, 3) := by decide +kernel
theorem dX1_leastIndexFor_83 : decode cX1_leastIndexFor 83 = .ok (.iload 7, 2) := by decide +kernel
theorem dX1_leastIndexFor_85 : decode cX1_leastIndexFor 85 = .ok (.goto 4, 3) := by decide +kernel
theorem dX1_leastIndexFor_88 : decode cX1_leastIndexFor 88 = .ok (.iconst (-1), 1) := by decide +kernel
theorem dX1_leastIndexFor_89 : decode cX1_leastIndexFor 89 = .ok (.ireturn, 1) := by decide +kernel
theorem dX2_init_0 : decode cX2_init 0 = .ok (.aload_n 0, 1) := by decide +kernel
theorem dX2_init_1 : decode cX2_init 1 = .ok (.invokespecial 3, 3) := by decide +kernel
theorem dX2_init_4 : decode cX2_init 4 = .ok (.aload_n 0, 1) := by decide +kernel
theorem dX2_init_5 : decode cX2_init 5 = .ok (.sipush 180, 3) := by decide +kernel
theorem dX2_init_8 : decode cX2_init 8 = .ok (.newarray .int, 2) := by decide +kernel
theorem dX2_init_10 : decode cX2_init 10 = .ok (.putfield 9, 3) := by decide +kernel
theorem dX2_init_13 : decode cX2_init 13 = .ok (.return_, 1) := by decide +kernel
theorem dX2_clear_0 : decode cX2_clear 0 = .ok (.aload_n 0, 1) := by decide +kernel
theorem dX2_clear_1 : decode cX2_clear 1 = .ok (.iconst 0, 1) := by decide +kernel
theorem dX2_clear_2 : decode cX2_clear 2 = .ok (.putfield 15, 3) := by decide +kernel
theorem dX2_clear_5 : decode cX2_clear 5 = .ok (.aload_n 0, 1) := by decide +kernel
theorem dX2_clear_6 : decode cX2_clear 6 = .ok (.getfield 9, 3) := by decide +kernel
theorem dX2_clear_9 : decode cX2_clear 9 = .ok (.iconst 0, 1) := by decide +kernel
theorem dX2_clear_10 : decode cX2_clear 10 = .ok (.invokestatic 19, 3) := by decide +kernel
theorem dX2_clear_13 : decode cX2_clear 13 = .ok (.return_, 1) := by decide +kernel
theorem dX2_copyFrom_0 : decode cX2_copyFrom 0 = .ok (.aload_n 0, 1) := by decide +kernel
theorem dX2_copyFrom_1 : decode cX2_copyFrom 1 = .ok (.aload_n 1, 1) := by decide +kernel
theorem dX2_copyFrom_2 : decode cX2_copyFrom 2 = .ok (.getfield 15, 3) := by decide +kernel
theorem dX2_copyFrom_5 : decode cX2_copyFrom 5 = .ok (.putfield 15, 3) := by decide +kernel
theorem dX2_copyFrom_8 : decode cX2_copyFrom 8 = .ok (.aload_n 1, 1) := by decide +kernel
theorem dX2_copyFrom_9 : decode cX2_copyFrom 9 = .ok (.getfield 9, 3) := by decide +kernel
theorem dX2_copyFrom_12 : decode cX2_copyFrom 12 = .ok (.aload_n 0, 1) := by decide +kernel
theorem dX2_copyFrom_13 : decode cX2_copyFrom 13 = .ok (.getfield 9, 3) := by decide +kernel
theorem dX2_copyFrom_16 : decode cX2_copyFrom 16 = .ok (.invokestatic 25, 3) := by decide +kernel
theorem dX2_copyFrom_19 : decode cX2_copyFrom 19 = .ok (.return_, 1) := by decide +kernel
theorem dX2_add_0 : decode cX2_add 0 = .ok (.aload_n 0, 1) := by decide +kernel
theorem dX2_add_1 : decode cX2_add 1 = .ok (.getfield 15, 3) := by decide +kernel
theorem dX2_add_4 : decode cX2_add 4 = .ok (.bipush 6, 2) := by decide +kernel
theorem dX2_add_6 : decode cX2_add 6 = .ok (.imul, 1) := by decide +kernel
theorem dX2_add_7 : decode cX2_add 7 = .ok (.istore 7, 2) := by decide +kernel
theorem dX2_add_9 : decode cX2_add 9 = .ok (.aload_n 0, 1) := by decide +kernel
theorem dX2_add_10 : decode cX2_add 10 = .ok (.getfield 9, 3) := by decide +kernel
theorem dX2_add_13 : decode cX2_add 13 = .ok (.iload 7, 2) := by decide +kernel
theorem dX2_add_15 : decode cX2_add 15 = .ok (.iload_n 1, 1) := by decide +kernel
theorem dX2_add_16 : decode cX2_add 16 = .ok (.iastore, 1) := by decide +kernel
theorem dX2_add_17 : decode cX2_add 17 = .ok (.aload_n 0, 1) := by decide +kernel
theorem dX2_add_18 : decode cX2_add 18 = .ok (.getfield 9, 3) := by decide +kernel
theorem dX2_add_21 : decode cX2_add 21 = .ok (.iload 7, 2) := by decide +kernel
theorem dX2_add_23 : decode cX2_add 23 = .ok (.iconst 1, 1) := by decide +kernel
theorem dX2_add_24 : decode cX2_add 24 = .ok (.iadd, 1) := by decide +kernel
theorem dX2_add_25 : decode cX2_add 25 = .ok (.iload_n 2, 1) := by decide +kernel
theorem dX2_add_26 : decode cX2_add 26 = .ok (.iastore, 1) := by decide +kernel
theorem dX2_add_27 : decode cX2_add 27 = .ok (.aload_n 0, 1) := by decide +kernel
theorem dX2_add_28 : decode cX2_add 28 = .ok (.getfield 9, 3) := by decide +kernel
theorem dX2_add_31 : decode cX2_add 31 = .ok (.iload 7, 2) := by decide +kernel
theorem dX2_add_33 : decode cX2_add 33 = .ok (.iconst 2, 1) := by decide +kernel
theorem dX2_add_34 : decode cX2_add 34 = .ok (.iadd, 1) := by decide +kernel
theorem dX2_add_35 : decode cX2_add 35 = .ok (.iload_n 3, 1) := by decide +kernel
theorem dX2_add_36 : decode cX2_add 36 = .ok (.iastore, 1) := by decide +kernel
theorem dX2_add_37 : decode cX2_add 37 = .ok (.aload_n 0, 1) := by decide +kernel
theorem dX2_add_38 : decode cX2_add 38 = .ok (.getfield 9, 3) := by decide +kernel
theorem dX2_add_41 : decode cX2_add 41 = .ok (.iload 7, 2) := by decide +kernel
theorem dX2_add_43 : decode cX2_add 43 = .ok (.iconst 3, 1) := by decide +kernel
theorem dX2_add_44 : decode cX2_add 44 = .ok (.iadd, 1) := by decide +kernel
theorem dX2_add_45 : decode cX2_add 45 = .ok (.iload 4, 2) := by decide +kernel
theorem dX2_add_47 : decode cX2_add 47 = .ok (.iastore, 1) := by decide +kernel
theorem dX2_add_48 : decode cX2_add 48 = .ok (.aload_n 0, 1) := by decide +kernel
theorem dX2_add_49 : decode cX2_add 49 = .ok (.getfield 9, 3) := by decide +kernel
theorem dX2_add_52 : decode cX2_add 52 = .ok (.iload 7, 2) := by decide +kernel
theorem dX2_add_54 : decode cX2_add 54 = .ok (.iconst 4, 1) := by decide +kernel
theorem dX2_add_55 : decode cX2_add 55 = .ok (.iadd, 1) := by decide +kernel
theorem dX2_add_56 : decode cX2_add 56 = .ok (.iload 5, 2) := by decide +kernel
theorem dX2_add_58 : decode cX2_add 58 = .ok (.iastore, 1) := by decide +kernel
theorem dX2_add_59 : decode cX2_add 59 = .ok (.aload_n 0, 1) := by decide +kernel
theorem dX2_add_60 : decode cX2_add 60 = .ok (.getfield 9, 3) := by decide +kernel
theorem dX2_add_63 : decode cX2_add 63 = .ok (.iload 7, 2) := by decide +kernel
theorem dX2_add_65 : decode cX2_add 65 = .ok (.iconst 5, 1) := by decide +kernel
theorem dX2_add_66 : decode cX2_add 66 = .ok (.iadd, 1) := by decide +kernel
theorem dX2_add_67 : decode cX2_add 67 = .ok (.iload 6, 2) := by decide +kernel
theorem dX2_add_69 : decode cX2_add 69 = .ok (.iastore, 1) := by decide +kernel
theorem dX2_add_70 : decode cX2_add 70 = .ok (.aload_n 0, 1) := by decide +kernel
theorem dX2_add_71 : decode cX2_add 71 = .ok (.dup, 1) := by decide +kernel
theorem dX2_add_72 : decode cX2_add 72 = .ok (.getfield 15, 3) := by decide +kernel
theorem dX2_add_75 : decode cX2_add 75 = .ok (.iconst 1, 1) := by decide +kernel
theorem dX2_add_76 : decode cX2_add 76 = .ok (.iadd, 1) := by decide +kernel
theorem dX2_add_77 : decode cX2_add 77 = .ok (.putfield 15, 3) := by decide +kernel
theorem dX2_add_80 : decode cX2_add 80 = .ok (.return_, 1) := by decide +kernel
theorem dX2_remove_0 : decode cX2_remove 0 = .ok (.iload_n 1, 1) := by decide +kernel
theorem dX2_remove_1 : decode cX2_remove 1 = .ok (.bipush 6, 2) := by decide +kernel
theorem dX2_remove_3 : decode cX2_remove 3 = .ok (.imul, 1) := by decide +kernel
theorem dX2_remove_4 : decode cX2_remove 4 = .ok (.istore_n 2, 1) := by decide +kernel
theorem dX2_remove_5 : decode cX2_remove 5 = .ok (.aload_n 0, 1) := by decide +kernel
theorem dX2_remove_6 : decode cX2_remove 6 = .ok (.getfield 15, 3) := by decide +kernel
theorem dX2_remove_9 : decode cX2_remove 9 = .ok (.iconst 1, 1) := by decide +kernel
theorem dX2_remove_10 : decode cX2_remove 10 = .ok (.isub, 1) := by decide +kernel
theorem dX2_remove_11 : decode cX2_remove 11 = .ok (.iload_n 1, 1) := by decide +kernel
theorem dX2_remove_12 : decode cX2_remove 12 = .ok (.isub, 1) := by decide +kernel
theorem dX2_remove_13 : decode cX2_remove 13 = .ok (.bipush 6, 2) := by decide +kernel
theorem dX2_remove_15 : decode cX2_remove 15 = .ok (.imul, 1) := by decide +kernel
theorem dX2_remove_16 : decode cX2_remove 16 = .ok (.istore_n 3, 1) := by decide +kernel
theorem dX2_remove_17 : decode cX2_remove 17 = .ok (.aload_n 0, 1) := by decide +kernel
theorem dX2_remove_18 : decode cX2_remove 18 = .ok (.getfield 9, 3) := by decide +kernel
theorem dX2_remove_21 : decode cX2_remove 21 = .ok (.iload_n 2, 1) := by decide +kernel
theorem dX2_remove_22 : decode cX2_remove 22 = .ok (.bipush 6, 2) := by decide +kernel
theorem dX2_remove_24 : decode cX2_remove 24 = .ok (.iadd, 1) := by decide +kernel
theorem dX2_remove_25 : decode cX2_remove 25 = .ok (.aload_n 0, 1) := by decide +kernel
theorem dX2_remove_26 : decode cX2_remove 26 = .ok (.getfield 9, 3) := by decide +kernel
theorem dX2_remove_29 : decode cX2_remove 29 = .ok (.iload_n 2, 1) := by decide +kernel
theorem dX2_remove_30 : decode cX2_remove 30 = .ok (.iload_n 3, 1) := by decide +kernel
theorem dX2_remove_31 : decode cX2_remove 31 = .ok (.invokestatic 29, 3) := by decide +kernel
theorem dX2_remove_34 : decode cX2_remove 34 = .ok (.aload_n 0, 1) := by decide +kernel
theorem dX2_remove_35 : decode cX2_remove 35 = .ok (.dup, 1) := by decide +kernel
theorem dX2_remove_36 : decode cX2_remove 36 = .ok (.getfield 15, 3) := by decide +kernel
theorem dX2_remove_39 : decode cX2_remove 39 = .ok (.iconst 1, 1) := by decide +kernel
theorem dX2_remove_40 : decode cX2_remove 40 = .ok (.isub, 1) := by decide +kernel
theorem dX2_remove_41 : decode cX2_remove 41 = .ok (.putfield 15, 3) := by decide +kernel
theorem dX2_remove_44 : decode cX2_remove 44 = .ok (.return_, 1) := by decide +kernel
theorem dX2_volumeIn_0 : decode cX2_volumeIn 0 = .ok (.iload_n 1, 1) := by decide +kernel
theorem dX2_volumeIn_1 : decode cX2_volumeIn 1 = .ok (.bipush 6, 2) := by decide +kernel
theorem dX2_volumeIn_3 : decode cX2_volumeIn 3 = .ok (.imul, 1) := by decide +kernel
theorem dX2_volumeIn_4 : decode cX2_volumeIn 4 = .ok (.istore_n 3, 1) := by decide +kernel
theorem dX2_volumeIn_5 : decode cX2_volumeIn 5 = .ok (.iload_n 2, 1) := by decide +kernel
theorem dX2_volumeIn_6 : decode cX2_volumeIn 6 = .ok (.iconst (-1), 1) := by decide +kernel
theorem dX2_volumeIn_7 : decode cX2_volumeIn 7 = .ok (.if_icmp .eq 13, 3) := by decide +kernel
theorem dX2_volumeIn_10 : decode cX2_volumeIn 10 = .ok (.aload_n 0, 1) := by decide +kernel
theorem dX2_volumeIn_11 : decode cX2_volumeIn 11 = .ok (.getfield 9, 3) := by decide +kernel
theorem dX2_volumeIn_14 : decode cX2_volumeIn 14 = .ok (.iload_n 3, 1) := by decide +kernel
theorem dX2_volumeIn_15 : decode cX2_volumeIn 15 = .ok (.iload_n 2, 1) := by decide +kernel
theorem dX2_volumeIn_16 : decode cX2_volumeIn 16 = .ok (.iadd, 1) := by decide +kernel
theorem dX2_volumeIn_17 : decode cX2_volumeIn 17 = .ok (.iaload, 1) := by decide +kernel
theorem dX2_volumeIn_18 : decode cX2_volumeIn 18 = .ok (.i2l, 1) := by decide +kernel
theorem dX2_volumeIn_19 : decode cX2_volumeIn 19 = .ok (.lreturn, 1) := by decide +kernel
theorem dX2_volumeIn_20 : decode cX2_volumeIn 20 = .ok (.lconst 0, 1) := by decide +kernel
theorem dX2_volumeIn_21 : decode cX2_volumeIn 21 = .ok (.lstore 4, 2) := by decide +kernel
theorem dX2_volumeIn_23 : decode cX2_volumeIn 23 = .ok (.iconst 0, 1) := by decide +kernel
theorem dX2_volumeIn_24 : decode cX2_volumeIn 24 = .ok (.istore 6, 2) := by decide +kernel
theorem dX2_volumeIn_26 : decode cX2_volumeIn 26 = .ok (.iload 6, 2) := by decide +kernel
theorem dX2_volumeIn_28 : decode cX2_volumeIn 28 = .ok (.bipush 6, 2) := by decide +kernel
theorem dX2_volumeIn_30 : decode cX2_volumeIn 30 = .ok (.if_icmp .ge 24, 3) := by decide +kernel
theorem dX2_volumeIn_33 : decode cX2_volumeIn 33 = .ok (.lload 4, 2) := by decide +kernel
theorem dX2_volumeIn_35 : decode cX2_volumeIn 35 = .ok (.aload_n 0, 1) := by decide +kernel
theorem dX2_volumeIn_36 : decode cX2_volumeIn 36 = .ok (.getfield 9, 3) := by decide +kernel
theorem dX2_volumeIn_39 : decode cX2_volumeIn 39 = .ok (.iload_n 3, 1) := by decide +kernel
theorem dX2_volumeIn_40 : decode cX2_volumeIn 40 = .ok (.iload 6, 2) := by decide +kernel
theorem dX2_volumeIn_42 : decode cX2_volumeIn 42 = .ok (.iadd, 1) := by decide +kernel
theorem dX2_volumeIn_43 : decode cX2_volumeIn 43 = .ok (.iaload, 1) := by decide +kernel
theorem dX2_volumeIn_44 : decode cX2_volumeIn 44 = .ok (.i2l, 1) := by decide +kernel
theorem dX2_volumeIn_45 : decode cX2_volumeIn 45 = .ok (.ladd, 1) := by decide +kernel
theorem dX2_volumeIn_46 : decode cX2_volumeIn 46 = .ok (.lstore 4, 2) := by decide +kernel
theorem dX2_volumeIn_48 : decode cX2_volumeIn 48 = .ok (.iinc 6 1, 3) := by decide +kernel
theorem dX2_volumeIn_51 : decode cX2_volumeIn 51 = .ok (.goto (-25), 3) := by decide +kernel
theorem dX2_volumeIn_54 : decode cX2_volumeIn 54 = .ok (.lload 4, 2) := by decide +kernel
theorem dX2_volumeIn_56 : decode cX2_volumeIn 56 = .ok (.lreturn, 1) := by decide +kernel
theorem dX2_total_0 : decode cX2_total 0 = .ok (.lconst 0, 1) := by decide +kernel
theorem dX2_total_1 : decode cX2_total 1 = .ok (.lstore_n 2, 1) := by decide +kernel
theorem dX2_total_2 : decode cX2_total 2 = .ok (.iconst 0, 1) := by decide +kernel
theorem dX2_total_3 : decode cX2_total 3 = .ok (.istore 4, 2) := by decide +kernel
theorem dX2_total_5 : decode cX2_total 5 = .ok (.iload 4, 2) := by decide +kernel
theorem dX2_total_7 : decode cX2_total 7 = .ok (.aload_n 0, 1) := by decide +kernel
theorem dX2_total_8 : decode cX2_total 8 = .ok (.getfield 15, 3) := by decide +kernel
theorem dX2_total_11 : decode cX2_total 11 = .ok (.if_icmp .ge 19, 3) := by decide +kernel
theorem dX2_total_14 : decode cX2_total 14 = .ok (.lload_n 2, 1) := by decide +kernel
theorem dX2_total_15 : decode cX2_total 15 = .ok (.aload_n 0, 1) := by decide +kernel
theorem dX2_total_16 : decode cX2_total 16 = .ok (.iload 4, 2) := by decide +kernel
theorem dX2_total_18 : decode cX2_total 18 = .ok (.iload_n 1, 1) := by decide +kernel
theorem dX2_total_19 : decode cX2_total 19 = .ok (.invokevirtual 35, 3) := by decide +kernel
theorem dX2_total_22 : decode cX2_total 22 = .ok (.ladd, 1) := by decide +kernel
theorem dX2_total_23 : decode cX2_total 23 = .ok (.lstore_n 2, 1) := by decide +kernel
theorem dX2_total_24 : decode cX2_total 24 = .ok (.iinc 4 1, 3) := by decide +kernel
theorem dX2_total_27 : decode cX2_total 27 = .ok (.goto (-22), 3) := by decide +kernel
theorem dX2_total_30 : decode cX2_total 30 = .ok (.lload_n 2, 1) := by decide +kernel
theorem dX2_total_31 : decode cX2_total 31 = .ok (.lreturn, 1) := by decide +kernel
theorem dX2_spread_0 : decode cX2_spread 0 = .ok (.lconst 0, 1) := by decide +kernel
theorem dX2_spread_1 : decode cX2_spread 1 = .ok (.lstore_n 2, 1) := by decide +kernel
theorem dX2_spread_2 : decode cX2_spread 2 = .ok (.lconst 0, 1) := by decide +kernel
theorem dX2_spread_3 : decode cX2_spread 3 = .ok (.lstore 4, 2) := by decide +kernel
theorem dX2_spread_5 : decode cX2_spread 5 = .ok (.iconst 0, 1) := by decide +kernel
theorem dX2_spread_6 : decode cX2_spread 6 = .ok (.istore 6, 2) := by decide +kernel
theorem dX2_spread_8 : decode cX2_spread 8 = .ok (.iload 6, 2) := by decide +kernel
theorem dX2_spread_10 : decode cX2_spread 10 = .ok (.aload_n 0, 1) := by decide +kernel
theorem dX2_spread_11 : decode cX2_spread 11 = .ok (.getfield 15, 3) := by decide +kernel
theorem dX2_spread_14 : decode cX2_spread 14 = .ok (.if_icmp .ge 33, 3) := by decide +kernel
theorem dX2_spread_17 : decode cX2_spread 17 = .ok (.aload_n 0, 1) := by decide +kernel
theorem dX2_spread_18 : decode cX2_spread 18 = .ok (.iload 6, 2) := by decide +kernel
theorem dX2_spread_20 : decode cX2_spread 20 = .ok (.iload_n 1, 1) := by decide +kernel
theorem dX2_spread_21 : decode cX2_spread 21 = .ok (.invokevirtual 35, 3) := by decide +kernel
theorem dX2_spread_24 : decode cX2_spread 24 = .ok (.lstore 7, 2) := by decide +kernel
theorem dX2_spread_26 : decode cX2_spread 26 = .ok (.lload_n 2, 1) := by decide +kernel
theorem dX2_spread_27 : decode cX2_spread 27 = .ok (.lload 7, 2) := by decide +kernel
theorem dX2_spread_29 : decode cX2_spread 29 = .ok (.ladd, 1) := by decide +kernel
theorem dX2_spread_30 : decode cX2_spread 30 = .ok (.lstore_n 2, 1) := by decide +kernel
theorem dX2_spread_31 : decode cX2_spread 31 = .ok (.lload 4, 2) := by decide +kernel
theorem dX2_spread_33 : decode cX2_spread 33 = .ok (.lload 7, 2) := by decide +kernel
theorem dX2_spread_35 : decode cX2_spread 35 = .ok (.lload 7, 2) := by decide +kernel
theorem dX2_spread_37 : decode cX2_spread 37 = .ok (.lmul, 1) := by decide +kernel
theorem dX2_spread_38 : decode cX2_spread 38 = .ok (.ladd, 1) := by decide +kernel
theorem dX2_spread_39 : decode cX2_spread 39 = .ok (.lstore 4, 2) := by decide +kernel
theorem dX2_spread_41 : decode cX2_spread 41 = .ok (.iinc 6 1, 3) := by decide +kernel
theorem dX2_spread_44 : decode cX2_spread 44 = .ok (.goto (-36), 3) := by decide +kernel
theorem dX2_spread_47 : decode cX2_spread 47 = .ok (.aload_n 0, 1) := by decide +kernel
theorem dX2_spread_48 : decode cX2_spread 48 = .ok (.getfield 15, 3) := by decide +kernel
theorem dX2_spread_51 : decode cX2_spread 51 = .ok (.i2l, 1) := by decide +kernel
theorem dX2_spread_52 : decode cX2_spread 52 = .ok (.lload 4, 2) := by decide +kernel
theorem dX2_spread_54 : decode cX2_spread 54 = .ok (.lmul, 1) := by decide +kernel
theorem dX2_spread_55 : decode cX2_spread 55 = .ok (.lload_n 2, 1) := by decide +kernel
theorem dX2_spread_56 : decode cX2_spread 56 = .ok (.lload_n 2, 1) := by decide +kernel
theorem dX2_spread_57 : decode cX2_spread 57 = .ok (.lmul, 1) := by decide +kernel
theorem dX2_spread_58 : decode cX2_spread 58 = .ok (.lsub, 1) := by decide +kernel
theorem dX2_spread_59 : decode cX2_spread 59 = .ok (.lreturn, 1) := by decide +kernel
theorem dX2_weightedError_0 : decode cX2_weightedError 0 = .ok (.ldc2_w 39, 3) := by decide +kernel
theorem dX2_weightedError_3 : decode cX2_weightedError 3 = .ok (.aload_n 0, 1) := by decide +kernel
theorem dX2_weightedError_4 : decode cX2_weightedError 4 = .ok (.iload_n 1, 1) := by decide +kernel
theorem dX2_weightedError_5 : decode cX2_weightedError 5 = .ok (.invokevirtual 41, 3) := by decide +kernel
theorem dX2_weightedError_8 : decode cX2_weightedError 8 = .ok (.lmul, 1) := by decide +kernel
theorem dX2_weightedError_9 : decode cX2_weightedError 9 = .ok (.aload_n 0, 1) := by decide +kernel
theorem dX2_weightedError_10 : decode cX2_weightedError 10 = .ok (.getfield 15, 3) := by decide +kernel
theorem dX2_weightedError_13 : decode cX2_weightedError 13 = .ok (.i2l, 1) := by decide +kernel
theorem dX2_weightedError_14 : decode cX2_weightedError 14 = .ok (.lmul, 1) := by decide +kernel
theorem dX2_weightedError_15 : decode cX2_weightedError 15 = .ok (.lreturn, 1) := by decide +kernel
theorem dX2_allowance_0 : decode cX2_allowance 0 = .ok (.aload_n 0, 1) := by decide +kernel
theorem dX2_allowance_1 : decode cX2_allowance 1 = .ok (.iload_n 1, 1) := by decide +kernel
theorem dX2_allowance_2 : decode cX2_allowance 2 = .ok (.invokevirtual 45, 3) := by decide +kernel
theorem dX2_allowance_5 : decode cX2_allowance 5 = .ok (.lstore 4, 2) := by decide +kernel
theorem dX2_allowance_7 : decode cX2_allowance 7 = .ok (.iload_n 2, 1) := by decide +kernel
theorem dX2_allowance_8 : decode cX2_allowance 8 = .ok (.i2l, 1) := by decide +kernel
theorem dX2_allowance_9 : decode cX2_allowance 9 = .ok (.iload_n 2, 1) := by decide +kernel
theorem dX2_allowance_10 : decode cX2_allowance 10 = .ok (.i2l, 1) := by decide +kernel
theorem dX2_allowance_11 : decode cX2_allowance 11 = .ok (.lmul, 1) := by decide +kernel
theorem dX2_allowance_12 : decode cX2_allowance 12 = .ok (.iload_n 3, 1) := by decide +kernel
theorem dX2_allowance_13 : decode cX2_allowance 13 = .ok (.i2l, 1) := by decide +kernel
theorem dX2_allowance_14 : decode cX2_allowance 14 = .ok (.lmul, 1) := by decide +kernel
theorem dX2_allowance_15 : decode cX2_allowance 15 = .ok (.lload 4, 2) := by decide +kernel
theorem dX2_allowance_17 : decode cX2_allowance 17 = .ok (.lmul, 1) := by decide +kernel
theorem dX2_allowance_18 : decode cX2_allowance 18 = .ok (.lload 4, 2) := by decide +kernel
theorem dX2_allowance_20 : decode cX2_allowance 20 = .ok (.lmul, 1) := by decide +kernel
theorem dX2_allowance_21 : decode cX2_allowance 21 = .ok (.aload_n 0, 1) := by decide +kernel
theorem dX2_allowance_22 : decode cX2_allowance 22 = .ok (.getfield 15, 3) := by decide +kernel
theorem dX2_allowance_25 : decode cX2_allowance 25 = .ok (.iconst 1, 1) := by decide +kernel
theorem dX2_allowance_26 : decode cX2_allowance 26 = .ok (.isub, 1) := by decide +kernel
theorem dX2_allowance_27 : decode cX2_allowance 27 = .ok (.i2l, 1) := by decide +kernel
theorem dX2_allowance_28 : decode cX2_allowance 28 = .ok (.lmul, 1) := by decide +kernel
theorem dX2_allowance_29 : decode cX2_allowance 29 = .ok (.lreturn, 1) := by decide +kernel
theorem dX2_mostInfluential_0 : decode cX2_mostInfluential 0 = .ok (.aload_n 0, 1) := by decide +kernel
theorem dX2_mostInfluential_1 : decode cX2_mostInfluential 1 = .ok (.iload_n 1, 1) := by decide +kernel
theorem dX2_mostInfluential_2 : decode cX2_mostInfluential 2 = .ok (.invokevirtual 45, 3) := by decide +kernel
theorem dX2_mostInfluential_5 : decode cX2_mostInfluential 5 = .ok (.lstore_n 2, 1) := by decide +kernel
theorem dX2_mostInfluential_6 : decode cX2_mostInfluential 6 = .ok (.iconst 0, 1) := by decide +kernel
theorem dX2_mostInfluential_7 : decode cX2_mostInfluential 7 = .ok (.istore 4, 2) := by decide +kernel
theorem dX2_mostInfluential_9 : decode cX2_mostInfluential 9 = .ok (.ldc2_w 48, 3) := by decide +kernel
theorem dX2_mostInfluential_12 : decode cX2_mostInfluential 12 = .ok (.lstore 5, 2) := by decide +kernel
theorem dX2_mostInfluential_14 : decode cX2_mostInfluential 14 = .ok (.iconst 0, 1) := by decide +kernel
theorem dX2_mostInfluential_15 : decode cX2_mostInfluential 15 = .ok (.istore 7, 2) := by decide +kernel
theorem dX2_mostInfluential_17 : decode cX2_mostInfluential 17 = .ok (.iload 7, 2) := by decide +kernel
theorem dX2_mostInfluential_19 : decode cX2_mostInfluential 19 = .ok (.aload_n 0, 1) := by decide +kernel
theorem dX2_mostInfluential_20 : decode cX2_mostInfluential 20 = .ok (.getfield 15, 3) := by decide +kernel
theorem dX2_mostInfluential_23 : decode cX2_mostInfluential 23 = .ok (.if_icmp .ge 45, 3) := by decide +kernel
theorem dX2_mostInfluential_26 : decode cX2_mostInfluential 26 = .ok (.aload_n 0, 1) := by decide +kernel
theorem dX2_mostInfluential_27 : decode cX2_mostInfluential 27 = .ok (.getfield 15, 3) := by decide +kernel
theorem dX2_mostInfluential_30 : decode cX2_mostInfluential 30 = .ok (.i2l, 1) := by decide +kernel
theorem dX2_mostInfluential_31 : decode cX2_mostInfluential 31 = .ok (.aload_n 0, 1) := by decide +kernel
theorem dX2_mostInfluential_32 : decode cX2_mostInfluential 32 = .ok (.iload 7, 2) := by decide +kernel
theorem dX2_mostInfluential_34 : decode cX2_mostInfluential 34 = .ok (.iload_n 1, 1) := by decide +kernel
theorem dX2_mostInfluential_35 : decode cX2_mostInfluential 35 = .ok (.invokevirtual 35, 3) := by decide +kernel
theorem dX2_mostInfluential_38 : decode cX2_mostInfluential 38 = .ok (.lmul, 1) := by decide +kernel
theorem dX2_mostInfluential_39 : decode cX2_mostInfluential 39 = .ok (.lload_n 2, 1) := by decide +kernel
theorem dX2_mostInfluential_40 : decode cX2_mostInfluential 40 = .ok (.lsub, 1) := by decide +kernel
theorem dX2_mostInfluential_41 : decode cX2_mostInfluential 41 = .ok (.invokestatic 50, 3) := by decide +kernel
theorem dX2_mostInfluential_44 : decode cX2_mostInfluential 44 = .ok (.lstore 8, 2) := by decide +kernel
theorem dX2_mostInfluential_46 : decode cX2_mostInfluential 46 = .ok (.lload 8, 2) := by decide +kernel
theorem dX2_mostInfluential_48 : decode cX2_mostInfluential 48 = .ok (.lload 5, 2) := by decide +kernel
theorem dX2_mostInfluential_50 : decode cX2_mostInfluential 50 = .ok (.lcmp, 1) := by decide +kernel
theorem dX2_mostInfluential_51 : decode cX2_mostInfluential 51 = .ok (.ifCond .le 11, 3) := by decide +kernel
theorem dX2_mostInfluential_54 : decode cX2_mostInfluential 54 = .ok (.lload 8, 2) := by decide +kernel
theorem dX2_mostInfluential_56 : decode cX2_mostInfluential 56 = .ok (.lstore 5, 2) := by decide +kernel
theorem dX2_mostInfluential_58 : decode cX2_mostInfluential 58 = .ok (.iload 7, 2) := by decide +kernel
theorem dX2_mostInfluential_60 : decode cX2_mostInfluential 60 = .ok (.istore 4, 2) := by decide +kernel
theorem dX2_mostInfluential_62 : decode cX2_mostInfluential 62 = .ok (.iinc 7 1, 3) := by decide +kernel
theorem dX2_mostInfluential_65 : decode cX2_mostInfluential 65 = .ok (.goto (-48), 3) := by decide +kernel
theorem dX2_mostInfluential_68 : decode cX2_mostInfluential 68 = .ok (.iload 4, 2) := by decide +kernel
theorem dX2_mostInfluential_70 : decode cX2_mostInfluential 70 = .ok (.ireturn, 1) := by decide +kernel
theorem dX2_roundedEstimate_0 : decode cX2_roundedEstimate 0 = .ok (.aload_n 0, 1) := by decide +kernel
theorem dX2_roundedEstimate_1 : decode cX2_roundedEstimate 1 = .ok (.getfield 15, 3) := by decide +kernel
theorem dX2_roundedEstimate_4 : decode cX2_roundedEstimate 4 = .ok (.ifCond .ne 5, 3) := by decide +kernel
theorem dX2_roundedEstimate_7 : decode cX2_roundedEstimate 7 = .ok (.iconst 0, 1) := by decide +kernel
theorem dX2_roundedEstimate_8 : decode cX2_roundedEstimate 8 = .ok (.ireturn, 1) := by decide +kernel
theorem dX2_roundedEstimate_9 : decode cX2_roundedEstimate 9 = .ok (.iload_n 2, 1) := by decide +kernel
theorem dX2_roundedEstimate_10 : decode cX2_roundedEstimate 10 = .ok (.i2l, 1) := by decide +kernel
theorem dX2_roundedEstimate_11 : decode cX2_roundedEstimate 11 = .ok (.aload_n 0, 1) := by decide +kernel
theorem dX2_roundedEstimate_12 : decode cX2_roundedEstimate 12 = .ok (.iload_n 1, 1) := by decide +kernel
theorem dX2_roundedEstimate_13 : decode cX2_roundedEstimate 13 = .ok (.invokevirtual 45, 3) := by decide +kernel
theorem dX2_roundedEstimate_16 : decode cX2_roundedEstimate 16 = .ok (.lmul, 1) := by decide +kernel
theorem dX2_roundedEstimate_17 : decode cX2_roundedEstimate 17 = .ok (.aload_n 0, 1) := by decide +kernel
theorem dX2_roundedEstimate_18 : decode cX2_roundedEstimate 18 = .ok (.getfield 15, 3) := by decide +kernel
theorem dX2_roundedEstimate_21 : decode cX2_roundedEstimate 21 = .ok (.i2l, 1) := by decide +kernel
theorem dX2_roundedEstimate_22 : decode cX2_roundedEstimate 22 = .ok (.ldiv, 1) := by decide +kernel
theorem dX2_roundedEstimate_23 : decode cX2_roundedEstimate 23 = .ok (.l2i, 1) := by decide +kernel
theorem dX2_roundedEstimate_24 : decode cX2_roundedEstimate 24 = .ok (.ireturn, 1) := by decide +kernel
theorem dX3_init_0 : decode cX3_init 0 = .ok (.aload_n 0, 1) := by decide +kernel
theorem dX3_init_1 : decode cX3_init 1 = .ok (.invokespecial 3, 3) := by decide +kernel
theorem dX3_init_4 : decode cX3_init 4 = .ok (.aload_n 0, 1) := by decide +kernel
theorem dX3_init_5 : decode cX3_init 5 = .ok (.bipush 8, 2) := by decide +kernel
theorem dX3_init_7 : decode cX3_init 7 = .ok (.anewarray 9, 3) := by decide +kernel
theorem dX3_init_10 : decode cX3_init 10 = .ok (.putfield 11, 3) := by decide +kernel
theorem dX3_init_13 : decode cX3_init 13 = .ok (.iconst 0, 1) := by decide +kernel
theorem dX3_init_14 : decode cX3_init 14 = .ok (.istore_n 1, 1) := by decide +kernel
theorem dX3_init_15 : decode cX3_init 15 = .ok (.iload_n 1, 1) := by decide +kernel
theorem dX3_init_16 : decode cX3_init 16 = .ok (.bipush 8, 2) := by decide +kernel
theorem dX3_init_18 : decode cX3_init 18 = .ok (.if_icmp .ge 22, 3) := by decide +kernel
theorem dX3_init_21 : decode cX3_init 21 = .ok (.aload_n 0, 1) := by decide +kernel
theorem dX3_init_22 : decode cX3_init 22 = .ok (.getfield 11, 3) := by decide +kernel
theorem dX3_init_25 : decode cX3_init 25 = .ok (.iload_n 1, 1) := by decide +kernel
theorem dX3_init_26 : decode cX3_init 26 = .ok (.new 9, 3) := by decide +kernel
theorem dX3_init_29 : decode cX3_init 29 = .ok (.dup, 1) := by decide +kernel
theorem dX3_init_30 : decode cX3_init 30 = .ok (.invokespecial 17, 3) := by decide +kernel
theorem dX3_init_33 : decode cX3_init 33 = .ok (.aastore, 1) := by decide +kernel
theorem dX3_init_34 : decode cX3_init 34 = .ok (.iinc 1 1, 3) := by decide +kernel
theorem dX3_init_37 : decode cX3_init 37 = .ok (.goto (-22), 3) := by decide +kernel
theorem dX3_init_40 : decode cX3_init 40 = .ok (.return_, 1) := by decide +kernel
theorem dX3_keep_0 : decode cX3_keep 0 = .ok (.aload_n 0, 1) := by decide +kernel
theorem dX3_keep_1 : decode cX3_keep 1 = .ok (.aload_n 0, 1) := by decide +kernel
theorem dX3_keep_2 : decode cX3_keep 2 = .ok (.getfield 18, 3) := by decide +kernel
theorem dX3_keep_5 : decode cX3_keep 5 = .ok (.iconst 1, 1) := by decide +kernel
theorem dX3_keep_6 : decode cX3_keep 6 = .ok (.iadd, 1) := by decide +kernel
theorem dX3_keep_7 : decode cX3_keep 7 = .ok (.bipush 8, 2) := by decide +kernel
theorem dX3_keep_9 : decode cX3_keep 9 = .ok (.irem, 1) := by decide +kernel
theorem dX3_keep_10 : decode cX3_keep 10 = .ok (.putfield 18, 3) := by decide +kernel
theorem dX3_keep_13 : decode cX3_keep 13 = .ok (.aload_n 0, 1) := by decide +kernel
theorem dX3_keep_14 : decode cX3_keep 14 = .ok (.getfield 11, 3) := by decide +kernel
theorem dX3_keep_17 : decode cX3_keep 17 = .ok (.aload_n 0, 1) := by decide +kernel
theorem dX3_keep_18 : decode cX3_keep 18 = .ok (.getfield 18, 3) := by decide +kernel
theorem dX3_keep_21 : decode cX3_keep 21 = .ok (.aaload, 1) := by decide +kernel
theorem dX3_keep_22 : decode cX3_keep 22 = .ok (.aload_n 1, 1) := by decide +kernel
theorem dX3_keep_23 : decode cX3_keep 23 = .ok (.invokevirtual 22, 3) := by decide +kernel
theorem dX3_keep_26 : decode cX3_keep 26 = .ok (.aload_n 0, 1) := by decide +kernel
theorem dX3_keep_27 : decode cX3_keep 27 = .ok (.aload_n 0, 1) := by decide +kernel
theorem dX3_keep_28 : decode cX3_keep 28 = .ok (.getfield 26, 3) := by decide +kernel
theorem dX3_keep_31 : decode cX3_keep 31 = .ok (.iconst 1, 1) := by decide +kernel
theorem dX3_keep_32 : decode cX3_keep 32 = .ok (.iadd, 1) := by decide +kernel
theorem dX3_keep_33 : decode cX3_keep 33 = .ok (.bipush 8, 2) := by decide +kernel
theorem dX3_keep_35 : decode cX3_keep 35 = .ok (.invokestatic 29, 3) := by decide +kernel
theorem dX3_keep_38 : decode cX3_keep 38 = .ok (.putfield 26, 3) := by decide +kernel
theorem dX3_keep_41 : decode cX3_keep 41 = .ok (.return_, 1) := by decide +kernel
theorem dX3_takeBack_0 : decode cX3_takeBack 0 = .ok (.aload_n 0, 1) := by decide +kernel
theorem dX3_takeBack_1 : decode cX3_takeBack 1 = .ok (.getfield 11, 3) := by decide +kernel
theorem dX3_takeBack_4 : decode cX3_takeBack 4 = .ok (.aload_n 0, 1) := by decide +kernel
theorem dX3_takeBack_5 : decode cX3_takeBack 5 = .ok (.getfield 18, 3) := by decide +kernel
theorem dX3_takeBack_8 : decode cX3_takeBack 8 = .ok (.aaload, 1) := by decide +kernel
theorem dX3_takeBack_9 : decode cX3_takeBack 9 = .ok (.astore_n 2, 1) := by decide +kernel
theorem dX3_takeBack_10 : decode cX3_takeBack 10 = .ok (.aload_n 0, 1) := by decide +kernel
theorem dX3_takeBack_11 : decode cX3_takeBack 11 = .ok (.getfield 11, 3) := by decide +kernel
theorem dX3_takeBack_14 : decode cX3_takeBack 14 = .ok (.aload_n 0, 1) := by decide +kernel
theorem dX3_takeBack_15 : decode cX3_takeBack 15 = .ok (.getfield 18, 3) := by decide +kernel
theorem dX3_takeBack_18 : decode cX3_takeBack 18 = .ok (.aload_n 1, 1) := by decide +kernel
theorem dX3_takeBack_19 : decode cX3_takeBack 19 = .ok (.aastore, 1) := by decide +kernel
theorem dX3_takeBack_20 : decode cX3_takeBack 20 = .ok (.aload_n 0, 1) := by decide +kernel
theorem dX3_takeBack_21 : decode cX3_takeBack 21 = .ok (.aload_n 0, 1) := by decide +kernel
theorem dX3_takeBack_22 : decode cX3_takeBack 22 = .ok (.getfield 18, 3) := by decide +kernel
theorem dX3_takeBack_25 : decode cX3_takeBack 25 = .ok (.bipush 8, 2) := by decide +kernel
theorem dX3_takeBack_27 : decode cX3_takeBack 27 = .ok (.iadd, 1) := by decide +kernel
theorem dX3_takeBack_28 : decode cX3_takeBack 28 = .ok (.iconst 1, 1) := by decide +kernel
theorem dX3_takeBack_29 : decode cX3_takeBack 29 = .ok (.isub, 1) := by decide +kernel
theorem dX3_takeBack_30 : decode cX3_takeBack 30 = .ok (.bipush 8, 2) := by decide +kernel
theorem dX3_takeBack_32 : decode cX3_takeBack 32 = .ok (.irem, 1) := by decide +kernel
theorem dX3_takeBack_33 : decode cX3_takeBack 33 = .ok (.putfield 18, 3) := by decide +kernel
theorem dX3_takeBack_36 : decode cX3_takeBack 36 = .ok (.aload_n 0, 1) := by decide +kernel
theorem dX3_takeBack_37 : decode cX3_takeBack 37 = .ok (.dup, 1) := by decide +kernel
theorem dX3_takeBack_38 : decode cX3_takeBack 38 = .ok (.getfield 26, 3) := by decide +kernel
theorem dX3_takeBack_41 : decode cX3_takeBack 41 = .ok (.iconst 1, 1) := by decide +kernel
theorem dX3_takeBack_42 : decode cX3_takeBack 42 = .ok (.isub, 1) := by decide +kernel
theorem dX3_takeBack_43 : decode cX3_takeBack 43 = .ok (.putfield 26, 3) := by decide +kernel
theorem dX3_takeBack_46 : decode cX3_takeBack 46 = .ok (.aload_n 2, 1) := by decide +kernel
theorem dX3_takeBack_47 : decode cX3_takeBack 47 = .ok (.areturn, 1) := by decide +kernel
theorem dX4_init_0 : decode cX4_init 0 = .ok (.aload_n 0, 1) := by decide +kernel
theorem dX4_init_1 : decode cX4_init 1 = .ok (.invokespecial 3, 3) := by decide +kernel
theorem dX4_init_4 : decode cX4_init 4 = .ok (.aload_n 0, 1) := by decide +kernel
theorem dX4_init_5 : decode cX4_init 5 = .ok (.bipush 60, 2) := by decide +kernel
theorem dX4_init_7 : decode cX4_init 7 = .ok (.newarray .int, 2) := by decide +kernel
theorem dX4_init_9 : decode cX4_init 9 = .ok (.putfield 9, 3) := by decide +kernel
theorem dX4_init_12 : decode cX4_init 12 = .ok (.aload_n 0, 1) := by decide +kernel
theorem dX4_init_13 : decode cX4_init 13 = .ok (.bipush 60, 2) := by decide +kernel
theorem dX4_init_15 : decode cX4_init 15 = .ok (.newarray .int, 2) := by decide +kernel
theorem dX4_init_17 : decode cX4_init 17 = .ok (.putfield 15, 3) := by decide +kernel
theorem dX4_init_20 : decode cX4_init 20 = .ok (.aload_n 0, 1) := by decide +kernel
theorem dX4_init_21 : decode cX4_init 21 = .ok (.bipush 60, 2) := by decide +kernel
theorem dX4_init_23 : decode cX4_init 23 = .ok (.newarray .int, 2) := by decide +kernel
theorem dX4_init_25 : decode cX4_init 25 = .ok (.putfield 18, 3) := by decide +kernel
theorem dX4_init_28 : decode cX4_init 28 = .ok (.aload_n 0, 1) := by decide +kernel
theorem dX4_init_29 : decode cX4_init 29 = .ok (.bipush 60, 2) := by decide +kernel
theorem dX4_init_31 : decode cX4_init 31 = .ok (.newarray .int, 2) := by decide +kernel
theorem dX4_init_33 : decode cX4_init 33 = .ok (.putfield 21, 3) := by decide +kernel
theorem dX4_init_36 : decode cX4_init 36 = .ok (.return_, 1) := by decide +kernel
theorem dX4_clear_0 : decode cX4_clear 0 = .ok (.aload_n 0, 1) := by decide +kernel
theorem dX4_clear_1 : decode cX4_clear 1 = .ok (.iconst 0, 1) := by decide +kernel
theorem dX4_clear_2 : decode cX4_clear 2 = .ok (.putfield 24, 3) := by decide +kernel
theorem dX4_clear_5 : decode cX4_clear 5 = .ok (.aload_n 0, 1) := by decide +kernel
theorem dX4_clear_6 : decode cX4_clear 6 = .ok (.iconst 0, 1) := by decide +kernel
theorem dX4_clear_7 : decode cX4_clear 7 = .ok (.putfield 28, 3) := by decide +kernel
theorem dX4_clear_10 : decode cX4_clear 10 = .ok (.aload_n 0, 1) := by decide +kernel
theorem dX4_clear_11 : decode cX4_clear 11 = .ok (.iconst 0, 1) := by decide +kernel
theorem dX4_clear_12 : decode cX4_clear 12 = .ok (.putfield 31, 3) := by decide +kernel
theorem dX4_clear_15 : decode cX4_clear 15 = .ok (.return_, 1) := by decide +kernel
theorem dX4_copyFrom_0 : decode cX4_copyFrom 0 = .ok (.aload_n 0, 1) := by decide +kernel
theorem dX4_copyFrom_1 : decode cX4_copyFrom 1 = .ok (.aload_n 1, 1) := by decide +kernel
theorem dX4_copyFrom_2 : decode cX4_copyFrom 2 = .ok (.getfield 24, 3) := by decide +kernel
theorem dX4_copyFrom_5 : decode cX4_copyFrom 5 = .ok (.putfield 24, 3) := by decide +kernel
theorem dX4_copyFrom_8 : decode cX4_copyFrom 8 = .ok (.aload_n 0, 1) := by decide +kernel
theorem dX4_copyFrom_9 : decode cX4_copyFrom 9 = .ok (.aload_n 1, 1) := by decide +kernel
theorem dX4_copyFrom_10 : decode cX4_copyFrom 10 = .ok (.getfield 28, 3) := by decide +kernel
theorem dX4_copyFrom_13 : decode cX4_copyFrom 13 = .ok (.putfield 28, 3) := by decide +kernel
theorem dX4_copyFrom_16 : decode cX4_copyFrom 16 = .ok (.aload_n 0, 1) := by decide +kernel
theorem dX4_copyFrom_17 : decode cX4_copyFrom 17 = .ok (.aload_n 1, 1) := by decide +kernel
theorem dX4_copyFrom_18 : decode cX4_copyFrom 18 = .ok (.getfield 31, 3) := by decide +kernel
theorem dX4_copyFrom_21 : decode cX4_copyFrom 21 = .ok (.putfield 31, 3) := by decide +kernel
theorem dX4_copyFrom_24 : decode cX4_copyFrom 24 = .ok (.aload_n 1, 1) := by decide +kernel
theorem dX4_copyFrom_25 : decode cX4_copyFrom 25 = .ok (.getfield 9, 3) := by decide +kernel
theorem dX4_copyFrom_28 : decode cX4_copyFrom 28 = .ok (.aload_n 0, 1) := by decide +kernel
theorem dX4_copyFrom_29 : decode cX4_copyFrom 29 = .ok (.getfield 9, 3) := by decide +kernel
theorem dX4_copyFrom_32 : decode cX4_copyFrom 32 = .ok (.invokestatic 34, 3) := by decide +kernel
theorem dX4_copyFrom_35 : decode cX4_copyFrom 35 = .ok (.aload_n 1, 1) := by decide +kernel
theorem dX4_copyFrom_36 : decode cX4_copyFrom 36 = .ok (.getfield 15, 3) := by decide +kernel
theorem dX4_copyFrom_39 : decode cX4_copyFrom 39 = .ok (.aload_n 0, 1) := by decide +kernel
theorem dX4_copyFrom_40 : decode cX4_copyFrom 40 = .ok (.getfield 15, 3) := by decide +kernel
theorem dX4_copyFrom_43 : decode cX4_copyFrom 43 = .ok (.invokestatic 34, 3) := by decide +kernel
theorem dX4_copyFrom_46 : decode cX4_copyFrom 46 = .ok (.aload_n 1, 1) := by decide +kernel
theorem dX4_copyFrom_47 : decode cX4_copyFrom 47 = .ok (.getfield 18, 3) := by decide +kernel
theorem dX4_copyFrom_50 : decode cX4_copyFrom 50 = .ok (.aload_n 0, 1) := by decide +kernel
theorem dX4_copyFrom_51 : decode cX4_copyFrom 51 = .ok (.getfield 18, 3) := by decide +kernel
theorem dX4_copyFrom_54 : decode cX4_copyFrom 54 = .ok (.invokestatic 34, 3) := by decide +kernel
theorem dX4_copyFrom_57 : decode cX4_copyFrom 57 = .ok (.aload_n 1, 1) := by decide +kernel
theorem dX4_copyFrom_58 : decode cX4_copyFrom 58 = .ok (.getfield 21, 3) := by decide +kernel
theorem dX4_copyFrom_61 : decode cX4_copyFrom 61 = .ok (.aload_n 0, 1) := by decide +kernel
theorem dX4_copyFrom_62 : decode cX4_copyFrom 62 = .ok (.getfield 21, 3) := by decide +kernel
theorem dX4_copyFrom_65 : decode cX4_copyFrom 65 = .ok (.invokestatic 34, 3) := by decide +kernel
theorem dX4_copyFrom_68 : decode cX4_copyFrom 68 = .ok (.return_, 1) := by decide +kernel
theorem dX4_add_0 : decode cX4_add 0 = .ok (.aload_n 0, 1) := by decide +kernel
theorem dX4_add_1 : decode cX4_add 1 = .ok (.getfield 9, 3) := by decide +kernel
theorem dX4_add_4 : decode cX4_add 4 = .ok (.aload_n 0, 1) := by decide +kernel
theorem dX4_add_5 : decode cX4_add 5 = .ok (.getfield 24, 3) := by decide +kernel
theorem dX4_add_8 : decode cX4_add 8 = .ok (.iload_n 1, 1) := by decide +kernel
theorem dX4_add_9 : decode cX4_add 9 = .ok (.iastore, 1) := by decide +kernel
theorem dX4_add_10 : decode cX4_add 10 = .ok (.aload_n 0, 1) := by decide +kernel
theorem dX4_add_11 : decode cX4_add 11 = .ok (.getfield 15, 3) := by decide +kernel
theorem dX4_add_14 : decode cX4_add 14 = .ok (.aload_n 0, 1) := by decide +kernel
theorem dX4_add_15 : decode cX4_add 15 = .ok (.getfield 24, 3) := by decide +kernel
theorem dX4_add_18 : decode cX4_add 18 = .ok (.iload_n 2, 1) := by decide +kernel
theorem dX4_add_19 : decode cX4_add 19 = .ok (.iastore, 1) := by decide +kernel
theorem dX4_add_20 : decode cX4_add 20 = .ok (.aload_n 0, 1) := by decide +kernel
theorem dX4_add_21 : decode cX4_add 21 = .ok (.getfield 18, 3) := by decide +kernel
theorem dX4_add_24 : decode cX4_add 24 = .ok (.aload_n 0, 1) := by decide +kernel
theorem dX4_add_25 : decode cX4_add 25 = .ok (.getfield 24, 3) := by decide +kernel
theorem dX4_add_28 : decode cX4_add 28 = .ok (.iload_n 3, 1) := by decide +kernel
theorem dX4_add_29 : decode cX4_add 29 = .ok (.iastore, 1) := by decide +kernel
theorem dX4_add_30 : decode cX4_add 30 = .ok (.aload_n 0, 1) := by decide +kernel
theorem dX4_add_31 : decode cX4_add 31 = .ok (.getfield 21, 3) := by decide +kernel
theorem dX4_add_34 : decode cX4_add 34 = .ok (.aload_n 0, 1) := by decide +kernel
theorem dX4_add_35 : decode cX4_add 35 = .ok (.getfield 24, 3) := by decide +kernel
theorem dX4_add_38 : decode cX4_add 38 = .ok (.iconst (-1), 1) := by decide +kernel
theorem dX4_add_39 : decode cX4_add 39 = .ok (.iastore, 1) := by decide +kernel
theorem dX4_add_40 : decode cX4_add 40 = .ok (.aload_n 0, 1) := by decide +kernel
theorem dX4_add_41 : decode cX4_add 41 = .ok (.dup, 1) := by decide +kernel
theorem dX4_add_42 : decode cX4_add 42 = .ok (.getfield 24, 3) := by decide +kernel
theorem dX4_add_45 : decode cX4_add 45 = .ok (.iconst 1, 1) := by decide +kernel
theorem dX4_add_46 : decode cX4_add 46 = .ok (.iadd, 1) := by decide +kernel
theorem dX4_add_47 : decode cX4_add 47 = .ok (.putfield 24, 3) := by decide +kernel
theorem dX4_add_50 : decode cX4_add 50 = .ok (.return_, 1) := by decide +kernel
theorem dX4_remove_0 : decode cX4_remove 0 = .ok (.aload_n 0, 1) := by decide +kernel
theorem dX4_remove_1 : decode cX4_remove 1 = .ok (.aload_n 0, 1) := by decide +kernel
theorem dX4_remove_2 : decode cX4_remove 2 = .ok (.getfield 9, 3) := by decide +kernel
theorem dX4_remove_5 : decode cX4_remove 5 = .ok (.iload_n 1, 1) := by decide +kernel
theorem dX4_remove_6 : decode cX4_remove 6 = .ok (.invokevirtual 38, 3) := by decide +kernel
theorem dX4_remove_9 : decode cX4_remove 9 = .ok (.aload_n 0, 1) := by decide +kernel
theorem dX4_remove_10 : decode cX4_remove 10 = .ok (.aload_n 0, 1) := by decide +kernel
theorem dX4_remove_11 : decode cX4_remove 11 = .ok (.getfield 15, 3) := by decide +kernel
theorem dX4_remove_14 : decode cX4_remove 14 = .ok (.iload_n 1, 1) := by decide +kernel
theorem dX4_remove_15 : decode cX4_remove 15 = .ok (.invokevirtual 38, 3) := by decide +kernel
theorem dX4_remove_18 : decode cX4_remove 18 = .ok (.aload_n 0, 1) := by decide +kernel
theorem dX4_remove_19 : decode cX4_remove 19 = .ok (.aload_n 0, 1) := by decide +kernel
theorem dX4_remove_20 : decode cX4_remove 20 = .ok (.getfield 18, 3) := by decide +kernel
theorem dX4_remove_23 : decode cX4_remove 23 = .ok (.iload_n 1, 1) := by decide +kernel
theorem dX4_remove_24 : decode cX4_remove 24 = .ok (.invokevirtual 38, 3) := by decide +kernel
theorem dX4_remove_27 : decode cX4_remove 27 = .ok (.aload_n 0, 1) := by decide +kernel
theorem dX4_remove_28 : decode cX4_remove 28 = .ok (.aload_n 0, 1) := by decide +kernel
theorem dX4_remove_29 : decode cX4_remove 29 = .ok (.getfield 21, 3) := by decide +kernel
theorem dX4_remove_32 : decode cX4_remove 32 = .ok (.iload_n 1, 1) := by decide +kernel
theorem dX4_remove_33 : decode cX4_remove 33 = .ok (.invokevirtual 38, 3) := by decide +kernel
theorem dX4_remove_36 : decode cX4_remove 36 = .ok (.aload_n 0, 1) := by decide +kernel
theorem dX4_remove_37 : decode cX4_remove 37 = .ok (.dup, 1) := by decide +kernel
theorem dX4_remove_38 : decode cX4_remove 38 = .ok (.getfield 24, 3) := by decide +kernel
theorem dX4_remove_41 : decode cX4_remove 41 = .ok (.iconst 1, 1) := by decide +kernel
theorem dX4_remove_42 : decode cX4_remove 42 = .ok (.isub, 1) := by decide +kernel
theorem dX4_remove_43 : decode cX4_remove 43 = .ok (.putfield 24, 3) := by decide +kernel
theorem dX4_remove_46 : decode cX4_remove 46 = .ok (.return_, 1) := by decide +kernel
theorem dX4_closeGap_0 : decode cX4_closeGap 0 = .ok (.aload_n 1, 1) := by decide +kernel
theorem dX4_closeGap_1 : decode cX4_closeGap 1 = .ok (.iload_n 2, 1) := by decide +kernel
theorem dX4_closeGap_2 : decode cX4_closeGap 2 = .ok (.iconst 1, 1) := by decide +kernel
theorem dX4_closeGap_3 : decode cX4_closeGap 3 = .ok (.iadd, 1) := by decide +kernel
theorem dX4_closeGap_4 : decode cX4_closeGap 4 = .ok (.aload_n 1, 1) := by decide +kernel
theorem dX4_closeGap_5 : decode cX4_closeGap 5 = .ok (.iload_n 2, 1) := by decide +kernel
theorem dX4_closeGap_6 : decode cX4_closeGap 6 = .ok (.aload_n 0, 1) := by decide +kernel
theorem dX4_closeGap_7 : decode cX4_closeGap 7 = .ok (.getfield 24, 3) := by decide +kernel
theorem dX4_closeGap_10 : decode cX4_closeGap 10 = .ok (.iconst 1, 1) := by decide +kernel
theorem dX4_closeGap_11 : decode cX4_closeGap 11 = .ok (.isub, 1) := by decide +kernel
theorem dX4_closeGap_12 : decode cX4_closeGap 12 = .ok (.iload_n 2, 1) := by decide +kernel
theorem dX4_closeGap_13 : decode cX4_closeGap 13 = .ok (.isub, 1) := by decide +kernel
theorem dX4_closeGap_14 : decode cX4_closeGap 14 = .ok (.invokestatic 42, 3) := by decide +kernel
theorem dX4_closeGap_17 : decode cX4_closeGap 17 = .ok (.return_, 1) := by decide +kernel
theorem dX4_isChecked_0 : decode cX4_isChecked 0 = .ok (.aload_n 0, 1) := by decide +kernel
theorem dX4_isChecked_1 : decode cX4_isChecked 1 = .ok (.getfield 21, 3) := by decide +kernel
theorem dX4_isChecked_4 : decode cX4_isChecked 4 = .ok (.iload_n 1, 1) := by decide +kernel
theorem dX4_isChecked_5 : decode cX4_isChecked 5 = .ok (.iaload, 1) := by decide +kernel
theorem dX4_isChecked_6 : decode cX4_isChecked 6 = .ok (.iconst (-1), 1) := by decide +kernel
theorem dX4_isChecked_7 : decode cX4_isChecked 7 = .ok (.if_icmp .eq 7, 3) := by decide +kernel
theorem dX4_isChecked_10 : decode cX4_isChecked 10 = .ok (.iconst 1, 1) := by decide +kernel
theorem dX4_isChecked_11 : decode cX4_isChecked 11 = .ok (.goto 4, 3) := by decide +kernel
theorem dX4_isChecked_14 : decode cX4_isChecked 14 = .ok (.iconst 0, 1) := by decide +kernel
theorem dX4_isChecked_15 : decode cX4_isChecked 15 = .ok (.ireturn, 1) := by decide +kernel
theorem dX4_setCheck_0 : decode cX4_setCheck 0 = .ok (.aload_n 0, 1) := by decide +kernel
theorem dX4_setCheck_1 : decode cX4_setCheck 1 = .ok (.getfield 21, 3) := by decide +kernel
theorem dX4_setCheck_4 : decode cX4_setCheck 4 = .ok (.iload_n 1, 1) := by decide +kernel
theorem dX4_setCheck_5 : decode cX4_setCheck 5 = .ok (.iload_n 2, 1) := by decide +kernel
theorem dX4_setCheck_6 : decode cX4_setCheck 6 = .ok (.iastore, 1) := by decide +kernel
theorem dX4_setCheck_7 : decode cX4_setCheck 7 = .ok (.aload_n 0, 1) := by decide +kernel
theorem dX4_setCheck_8 : decode cX4_setCheck 8 = .ok (.dup, 1) := by decide +kernel
theorem dX4_setCheck_9 : decode cX4_setCheck 9 = .ok (.getfield 28, 3) := by decide +kernel
theorem dX4_setCheck_12 : decode cX4_setCheck 12 = .ok (.aload_n 0, 1) := by decide +kernel
theorem dX4_setCheck_13 : decode cX4_setCheck 13 = .ok (.getfield 18, 3) := by decide +kernel
theorem dX4_setCheck_16 : decode cX4_setCheck 16 = .ok (.iload_n 1, 1) := by decide +kernel
theorem dX4_setCheck_17 : decode cX4_setCheck 17 = .ok (.iaload, 1) := by decide +kernel
theorem dX4_setCheck_18 : decode cX4_setCheck 18 = .ok (.iadd, 1) := by decide +kernel
theorem dX4_setCheck_19 : decode cX4_setCheck 19 = .ok (.putfield 28, 3) := by decide +kernel
theorem dX4_setCheck_22 : decode cX4_setCheck 22 = .ok (.aload_n 0, 1) := by decide +kernel
theorem dX4_setCheck_23 : decode cX4_setCheck 23 = .ok (.dup, 1) := by decide +kernel
theorem dX4_setCheck_24 : decode cX4_setCheck 24 = .ok (.getfield 31, 3) := by decide +kernel
theorem dX4_setCheck_27 : decode cX4_setCheck 27 = .ok (.iload_n 2, 1) := by decide +kernel
theorem dX4_setCheck_28 : decode cX4_setCheck 28 = .ok (.iadd, 1) := by decide +kernel
theorem dX4_setCheck_29 : decode cX4_setCheck 29 = .ok (.putfield 31, 3) := by decide +kernel
theorem dX4_setCheck_32 : decode cX4_setCheck 32 = .ok (.return_, 1) := by decide +kernel
theorem dX4_netSum_0 : decode cX4_netSum 0 = .ok (.iconst 0, 1) := by decide +kernel
theorem dX4_netSum_1 : decode cX4_netSum 1 = .ok (.istore 4, 2) := by decide +kernel
theorem dX4_netSum_3 : decode cX4_netSum 3 = .ok (.iconst 0, 1) := by decide +kernel
theorem dX4_netSum_4 : decode cX4_netSum 4 = .ok (.istore 5, 2) := by decide +kernel
theorem dX4_netSum_6 : decode cX4_netSum 6 = .ok (.iload 5, 2) := by decide +kernel
theorem dX4_netSum_8 : decode cX4_netSum 8 = .ok (.aload_n 0, 1) := by decide +kernel
theorem dX4_netSum_9 : decode cX4_netSum 9 = .ok (.getfield 24, 3) := by decide +kernel
theorem dX4_netSum_12 : decode cX4_netSum 12 = .ok (.if_icmp .ge 71, 3) := by decide +kernel
theorem dX4_netSum_15 : decode cX4_netSum 15 = .ok (.iload_n 1, 1) := by decide +kernel
theorem dX4_netSum_16 : decode cX4_netSum 16 = .ok (.iconst (-1), 1) := by decide +kernel
theorem dX4_netSum_17 : decode cX4_netSum 17 = .ok (.if_icmp .eq 14, 3) := by decide +kernel
theorem dX4_netSum_20 : decode cX4_netSum 20 = .ok (.aload_n 0, 1) := by decide +kernel
theorem dX4_netSum_21 : decode cX4_netSum 21 = .ok (.getfield 9, 3) := by decide +kernel
theorem dX4_netSum_24 : decode cX4_netSum 24 = .ok (.iload 5, 2) := by decide +kernel
theorem dX4_netSum_26 : decode cX4_netSum 26 = .ok (.iaload, 1) := by decide +kernel
theorem dX4_netSum_27 : decode cX4_netSum 27 = .ok (.iload_n 1, 1) := by decide +kernel
theorem dX4_netSum_28 : decode cX4_netSum 28 = .ok (.if_icmp .ne 7, 3) := by decide +kernel
theorem dX4_netSum_31 : decode cX4_netSum 31 = .ok (.iconst 1, 1) := by decide +kernel
theorem dX4_netSum_32 : decode cX4_netSum 32 = .ok (.goto 4, 3) := by decide +kernel
theorem dX4_netSum_35 : decode cX4_netSum 35 = .ok (.iconst 0, 1) := by decide +kernel
theorem dX4_netSum_36 : decode cX4_netSum 36 = .ok (.istore 6, 2) := by decide +kernel
theorem dX4_netSum_38 : decode cX4_netSum 38 = .ok (.iload 6, 2) := by decide +kernel
theorem dX4_netSum_40 : decode cX4_netSum 40 = .ok (.ifCond .eq 37, 3) := by decide +kernel
theorem dX4_netSum_43 : decode cX4_netSum 43 = .ok (.aload_n 0, 1) := by decide +kernel
theorem dX4_netSum_44 : decode cX4_netSum 44 = .ok (.getfield 15, 3) := by decide +kernel
theorem dX4_netSum_47 : decode cX4_netSum 47 = .ok (.iload 5, 2) := by decide +kernel
theorem dX4_netSum_49 : decode cX4_netSum 49 = .ok (.iaload, 1) := by decide +kernel
theorem dX4_netSum_50 : decode cX4_netSum 50 = .ok (.iload_n 2, 1) := by decide +kernel
theorem dX4_netSum_51 : decode cX4_netSum 51 = .ok (.if_icmp .lt 26, 3) := by decide +kernel
theorem dX4_netSum_54 : decode cX4_netSum 54 = .ok (.aload_n 0, 1) := by decide +kernel
theorem dX4_netSum_55 : decode cX4_netSum 55 = .ok (.getfield 15, 3) := by decide +kernel
theorem dX4_netSum_58 : decode cX4_netSum 58 = .ok (.iload 5, 2) := by decide +kernel
theorem dX4_netSum_60 : decode cX4_netSum 60 = .ok (.iaload, 1) := by decide +kernel
theorem dX4_netSum_61 : decode cX4_netSum 61 = .ok (.iload_n 3, 1) := by decide +kernel
theorem dX4_netSum_62 : decode cX4_netSum 62 = .ok (.if_icmp .ge 15, 3) := by decide +kernel
theorem dX4_netSum_65 : decode cX4_netSum 65 = .ok (.iload 4, 2) := by decide +kernel
theorem dX4_netSum_67 : decode cX4_netSum 67 = .ok (.aload_n 0, 1) := by decide +kernel
theorem dX4_netSum_68 : decode cX4_netSum 68 = .ok (.getfield 18, 3) := by decide +kernel
theorem dX4_netSum_71 : decode cX4_netSum 71 = .ok (.iload 5, 2) := by decide +kernel
theorem dX4_netSum_73 : decode cX4_netSum 73 = .ok (.iaload, 1) := by decide +kernel
theorem dX4_netSum_74 : decode cX4_netSum 74 = .ok (.iadd, 1) := by decide +kernel
theorem dX4_netSum_75 : decode cX4_netSum 75 = .ok (.istore 4, 2) := by decide +kernel
theorem dX4_netSum_77 : decode cX4_netSum 77 = .ok (.iinc 5 1, 3) := by decide +kernel
theorem dX4_netSum_80 : decode cX4_netSum 80 = .ok (.goto (-74), 3) := by decide +kernel
theorem dX4_netSum_83 : decode cX4_netSum 83 = .ok (.iload 4, 2) := by decide +kernel
theorem dX4_netSum_85 : decode cX4_netSum 85 = .ok (.ireturn, 1) := by decide +kernel
theorem dX4_worstChecked_0 : decode cX4_worstChecked 0 = .ok (.iconst (-1), 1) := by decide +kernel
theorem dX4_worstChecked_1 : decode cX4_worstChecked 1 = .ok (.istore_n 1, 1) := by decide +kernel
theorem dX4_worstChecked_2 : decode cX4_worstChecked 2 = .ok (.iconst 0, 1) := by decide +kernel
theorem dX4_worstChecked_3 : decode cX4_worstChecked 3 = .ok (.istore_n 2, 1) := by decide +kernel
theorem dX4_worstChecked_4 : decode cX4_worstChecked 4 = .ok (.iload_n 2, 1) := by decide +kernel
theorem dX4_worstChecked_5 : decode cX4_worstChecked 5 = .ok (.aload_n 0, 1) := by decide +kernel
theorem dX4_worstChecked_6 : decode cX4_worstChecked 6 = .ok (.getfield 24, 3) := by decide +kernel
theorem dX4_worstChecked_9 : decode cX4_worstChecked 9 = .ok (.if_icmp .ge 42, 3) := by decide +kernel
theorem dX4_worstChecked_12 : decode cX4_worstChecked 12 = .ok (.aload_n 0, 1) := by decide +kernel
theorem dX4_worstChecked_13 : decode cX4_worstChecked 13 = .ok (.iload_n 2, 1) := by decide +kernel
theorem dX4_worstChecked_14 : decode cX4_worstChecked 14 = .ok (.invokevirtual 48, 3) := by decide +kernel
theorem dX4_worstChecked_17 : decode cX4_worstChecked 17 = .ok (.ifCond .eq 28, 3) := by decide +kernel
theorem dX4_worstChecked_20 : decode cX4_worstChecked 20 = .ok (.aload_n 0, 1) := by decide +kernel
theorem dX4_worstChecked_21 : decode cX4_worstChecked 21 = .ok (.getfield 18, 3) := by decide +kernel
theorem dX4_worstChecked_24 : decode cX4_worstChecked 24 = .ok (.iload_n 2, 1) := by decide +kernel
theorem dX4_worstChecked_25 : decode cX4_worstChecked 25 = .ok (.iaload, 1) := by decide +kernel
theorem dX4_worstChecked_26 : decode cX4_worstChecked 26 = .ok (.ifCond .le 19, 3) := by decide +kernel
theorem dX4_worstChecked_29 : decode cX4_worstChecked 29 = .ok (.iload_n 1, 1) := by decide +kernel
theorem dX4_worstChecked_30 : decode cX4_worstChecked 30 = .ok (.iconst (-1), 1) := by decide +kernel
theorem dX4_worstChecked_31 : decode cX4_worstChecked 31 = .ok (.if_icmp .eq 12, 3) := by decide +kernel
theorem dX4_worstChecked_34 : decode cX4_worstChecked 34 = .ok (.aload_n 0, 1) := by decide +kernel
theorem dX4_worstChecked_35 : decode cX4_worstChecked 35 = .ok (.iload_n 2, 1) := by decide +kernel
theorem dX4_worstChecked_36 : decode cX4_worstChecked 36 = .ok (.iload_n 1, 1) := by decide +kernel
theorem dX4_worstChecked_37 : decode cX4_worstChecked 37 = .ok (.invokevirtual 52, 3) := by decide +kernel
theorem dX4_worstChecked_40 : decode cX4_worstChecked 40 = .ok (.ifCond .eq 5, 3) := by decide +kernel
theorem dX4_worstChecked_43 : decode cX4_worstChecked 43 = .ok (.iload_n 2, 1) := by decide +kernel
theorem dX4_worstChecked_44 : decode cX4_worstChecked 44 = .ok (.istore_n 1, 1) := by decide +kernel
theorem dX4_worstChecked_45 : decode cX4_worstChecked 45 = .ok (.iinc 2 1, 3) := by decide +kernel
theorem dX4_worstChecked_48 : decode cX4_worstChecked 48 = .ok (.goto (-44), 3) := by decide +kernel
theorem dX4_worstChecked_51 : decode cX4_worstChecked 51 = .ok (.iload_n 1, 1) := by decide +kernel
theorem dX4_worstChecked_52 : decode cX4_worstChecked 52 = .ok (.ireturn, 1) := by decide +kernel
theorem dX4_isWorse_0 : decode cX4_isWorse 0 = .ok (.aload_n 0, 1) := by decide +kernel
theorem dX4_isWorse_1 : decode cX4_isWorse 1 = .ok (.getfield 21, 3) := by decide +kernel
theorem dX4_isWorse_4 : decode cX4_isWorse 4 = .ok (.iload_n 1, 1) := by decide +kernel
theorem dX4_isWorse_5 : decode cX4_isWorse 5 = .ok (.iaload, 1) := by decide +kernel
theorem dX4_isWorse_6 : decode cX4_isWorse 6 = .ok (.aload_n 0, 1) := by decide +kernel
theorem dX4_isWorse_7 : decode cX4_isWorse 7 = .ok (.getfield 18, 3) := by decide +kernel
theorem dX4_isWorse_10 : decode cX4_isWorse 10 = .ok (.iload_n 1, 1) := by decide +kernel
theorem dX4_isWorse_11 : decode cX4_isWorse 11 = .ok (.iaload, 1) := by decide +kernel
theorem dX4_isWorse_12 : decode cX4_isWorse 12 = .ok (.isub, 1) := by decide +kernel
theorem dX4_isWorse_13 : decode cX4_isWorse 13 = .ok (.invokestatic 56, 3) := by decide +kernel
theorem dX4_isWorse_16 : decode cX4_isWorse 16 = .ok (.i2l, 1) := by decide +kernel
theorem dX4_isWorse_17 : decode cX4_isWorse 17 = .ok (.lstore_n 3, 1) := by decide +kernel
theorem dX4_isWorse_18 : decode cX4_isWorse 18 = .ok (.aload_n 0, 1) := by decide +kernel
theorem dX4_isWorse_19 : decode cX4_isWorse 19 = .ok (.getfield 21, 3) := by decide +kernel
theorem dX4_isWorse_22 : decode cX4_isWorse 22 = .ok (.iload_n 2, 1) := by decide +kernel
theorem dX4_isWorse_23 : decode cX4_isWorse 23 = .ok (.iaload, 1) := by decide +kernel
theorem dX4_isWorse_24 : decode cX4_isWorse 24 = .ok (.aload_n 0, 1) := by decide +kernel
theorem dX4_isWorse_25 : decode cX4_isWorse 25 = .ok (.getfield 18, 3) := by decide +kernel
theorem dX4_isWorse_28 : decode cX4_isWorse 28 = .ok (.iload_n 2, 1) := by decide +kernel
theorem dX4_isWorse_29 : decode cX4_isWorse 29 = .ok (.iaload, 1) := by decide +kernel
theorem dX4_isWorse_30 : decode cX4_isWorse 30 = .ok (.isub, 1) := by decide +kernel
theorem dX4_isWorse_31 : decode cX4_isWorse 31 = .ok (.invokestatic 56, 3) := by decide +kernel
theorem dX4_isWorse_34 : decode cX4_isWorse 34 = .ok (.i2l, 1) := by decide +kernel
theorem dX4_isWorse_35 : decode cX4_isWorse 35 = .ok (.lstore 5, 2) := by decide +kernel
theorem dX4_isWorse_37 : decode cX4_isWorse 37 = .ok (.lload_n 3, 1) := by decide +kernel
theorem dX4_isWorse_38 : decode cX4_isWorse 38 = .ok (.aload_n 0, 1) := by decide +kernel
theorem dX4_isWorse_39 : decode cX4_isWorse 39 = .ok (.getfield 18, 3) := by decide +kernel
theorem dX4_isWorse_42 : decode cX4_isWorse 42 = .ok (.iload_n 2, 1) := by decide +kernel
theorem dX4_isWorse_43 : decode cX4_isWorse 43 = .ok (.iaload, 1) := by decide +kernel
theorem dX4_isWorse_44 : decode cX4_isWorse 44 = .ok (.i2l, 1) := by decide +kernel
theorem dX4_isWorse_45 : decode cX4_isWorse 45 = .ok (.lmul, 1) := by decide +kernel
theorem dX4_isWorse_46 : decode cX4_isWorse 46 = .ok (.lload 5, 2) := by decide +kernel
theorem dX4_isWorse_48 : decode cX4_isWorse 48 = .ok (.aload_n 0, 1) := by decide +kernel
theorem dX4_isWorse_49 : decode cX4_isWorse 49 = .ok (.getfield 18, 3) := by decide +kernel
theorem dX4_isWorse_52 : decode cX4_isWorse 52 = .ok (.iload_n 1, 1) := by decide +kernel
theorem dX4_isWorse_53 : decode cX4_isWorse 53 = .ok (.iaload, 1) := by decide +kernel
theorem dX4_isWorse_54 : decode cX4_isWorse 54 = .ok (.i2l, 1) := by decide +kernel
theorem dX4_isWorse_55 : decode cX4_isWorse 55 = .ok (.lmul, 1) := by decide +kernel
theorem dX4_isWorse_56 : decode cX4_isWorse 56 = .ok (.lcmp, 1) := by decide +kernel
theorem dX4_isWorse_57 : decode cX4_isWorse 57 = .ok (.ifCond .le 7, 3) := by decide +kernel
theorem dX4_isWorse_60 : decode cX4_isWorse 60 = .ok (.iconst 1, 1) := by decide +kernel
theorem dX4_isWorse_61 : decode cX4_isWorse 61 = .ok (.goto 4, 3) := by decide +kernel
theorem dX4_isWorse_64 : decode cX4_isWorse 64 = .ok (.iconst 0, 1) := by decide +kernel
theorem dX4_isWorse_65 : decode cX4_isWorse 65 = .ok (.ireturn, 1) := by decide +kernel
theorem dX4_factorDividend_0 : decode cX4_factorDividend 0 = .ok (.aload_n 0, 1) := by decide +kernel
theorem dX4_factorDividend_1 : decode cX4_factorDividend 1 = .ok (.iload_n 1, 1) := by decide +kernel
theorem dX4_factorDividend_2 : decode cX4_factorDividend 2 = .ok (.invokevirtual 62, 3) := by decide +kernel
theorem dX4_factorDividend_5 : decode cX4_factorDividend 5 = .ok (.ifCond .eq 11, 3) := by decide +kernel
theorem dX4_factorDividend_8 : decode cX4_factorDividend 8 = .ok (.aload_n 0, 1) := by decide +kernel
theorem dX4_factorDividend_9 : decode cX4_factorDividend 9 = .ok (.getfield 31, 3) := by decide +kernel
theorem dX4_factorDividend_12 : decode cX4_factorDividend 12 = .ok (.i2l, 1) := by decide +kernel
theorem dX4_factorDividend_13 : decode cX4_factorDividend 13 = .ok (.goto 4, 3) := by decide +kernel
theorem dX4_factorDividend_16 : decode cX4_factorDividend 16 = .ok (.lconst 1, 1) := by decide +kernel
theorem dX4_factorDividend_17 : decode cX4_factorDividend 17 = .ok (.lreturn, 1) := by decide +kernel
theorem dX4_factorDivisor_0 : decode cX4_factorDivisor 0 = .ok (.aload_n 0, 1) := by decide +kernel
theorem dX4_factorDivisor_1 : decode cX4_factorDivisor 1 = .ok (.iload_n 1, 1) := by decide +kernel
theorem dX4_factorDivisor_2 : decode cX4_factorDivisor 2 = .ok (.invokevirtual 62, 3) := by decide +kernel
theorem dX4_factorDivisor_5 : decode cX4_factorDivisor 5 = .ok (.ifCond .eq 11, 3) := by decide +kernel
theorem dX4_factorDivisor_8 : decode cX4_factorDivisor 8 = .ok (.aload_n 0, 1) := by decide +kernel
theorem dX4_factorDivisor_9 : decode cX4_factorDivisor 9 = .ok (.getfield 28, 3) := by decide +kernel
theorem dX4_factorDivisor_12 : decode cX4_factorDivisor 12 = .ok (.i2l, 1) := by decide +kernel
theorem dX4_factorDivisor_13 : decode cX4_factorDivisor 13 = .ok (.goto 4, 3) := by decide +kernel
theorem dX4_factorDivisor_16 : decode cX4_factorDivisor 16 = .ok (.lconst 1, 1) := by decide +kernel
theorem dX4_factorDivisor_17 : decode cX4_factorDivisor 17 = .ok (.lreturn, 1) := by decide +kernel
theorem dX4_needsFactor_0 : decode cX4_needsFactor 0 = .ok (.aload_n 0, 1) := by decide +kernel
theorem dX4_needsFactor_1 : decode cX4_needsFactor 1 = .ok (.getfield 28, 3) := by decide +kernel
theorem dX4_needsFactor_4 : decode cX4_needsFactor 4 = .ok (.ifCond .eq 38, 3) := by decide +kernel
theorem dX4_needsFactor_7 : decode cX4_needsFactor 7 = .ok (.aload_n 0, 1) := by decide +kernel
theorem dX4_needsFactor_8 : decode cX4_needsFactor 8 = .ok (.getfield 31, 3) := by decide +kernel
theorem dX4_needsFactor_11 : decode cX4_needsFactor 11 = .ok (.ifCond .eq 31, 3) := by decide +kernel
theorem dX4_needsFactor_14 : decode cX4_needsFactor 14 = .ok (.aload_n 0, 1) := by decide +kernel
theorem dX4_needsFactor_15 : decode cX4_needsFactor 15 = .ok (.getfield 28, 3) := by decide +kernel
theorem dX4_needsFactor_18 : decode cX4_needsFactor 18 = .ok (.aload_n 0, 1) := by decide +kernel
theorem dX4_needsFactor_19 : decode cX4_needsFactor 19 = .ok (.getfield 31, 3) := by decide +kernel
theorem dX4_needsFactor_22 : decode cX4_needsFactor 22 = .ok (.isub, 1) := by decide +kernel
theorem dX4_needsFactor_23 : decode cX4_needsFactor 23 = .ok (.invokestatic 56, 3) := by decide +kernel
theorem dX4_needsFactor_26 : decode cX4_needsFactor 26 = .ok (.bipush 100, 2) := by decide +kernel
theorem dX4_needsFactor_28 : decode cX4_needsFactor 28 = .ok (.imul, 1) := by decide +kernel
theorem dX4_needsFactor_29 : decode cX4_needsFactor 29 = .ok (.aload_n 0, 1) := by decide +kernel
theorem dX4_needsFactor_30 : decode cX4_needsFactor 30 = .ok (.getfield 28, 3) := by decide +kernel
theorem dX4_needsFactor_33 : decode cX4_needsFactor 33 = .ok (.iload_n 1, 1) := by decide +kernel
theorem dX4_needsFactor_34 : decode cX4_needsFactor 34 = .ok (.imul, 1) := by decide +kernel
theorem dX4_needsFactor_35 : decode cX4_needsFactor 35 = .ok (.if_icmp .le 7, 3) := by decide +kernel
theorem dX4_needsFactor_38 : decode cX4_needsFactor 38 = .ok (.iconst 1, 1) := by decide +kernel
theorem dX4_needsFactor_39 : decode cX4_needsFactor 39 = .ok (.goto 4, 3) := by decide +kernel
theorem dX4_needsFactor_42 : decode cX4_needsFactor 42 = .ok (.iconst 0, 1) := by decide +kernel
theorem dX4_needsFactor_43 : decode cX4_needsFactor 43 = .ok (.ireturn, 1) := by decide +kernel
theorem dX5_init_0 : decode cX5_init 0 = .ok (.aload_n 0, 1) := by decide +kernel
theorem dX5_init_1 : decode cX5_init 1 = .ok (.invokespecial 3, 3) := by decide +kernel
theorem dX5_init_4 : decode cX5_init 4 = .ok (.aload_n 0, 1) := by decide +kernel
theorem dX5_init_5 : decode cX5_init 5 = .ok (.sipush 800, 3) := by decide +kernel
theorem dX5_init_8 : decode cX5_init 8 = .ok (.newarray .byte, 2) := by decide +kernel
theorem dX5_init_10 : decode cX5_init 10 = .ok (.putfield 9, 3) := by decide +kernel
theorem dX5_init_13 : decode cX5_init 13 = .ok (.aload_n 0, 1) := by decide +kernel
theorem dX5_init_14 : decode cX5_init 14 = .ok (.iconst (-1), 1) := by decide +kernel
theorem dX5_init_15 : decode cX5_init 15 = .ok (.putfield 15, 3) := by decide +kernel
theorem dX5_init_18 : decode cX5_init 18 = .ok (.return_, 1) := by decide +kernel
theorem dX5_hasRoom_0 : decode cX5_hasRoom 0 = .ok (.aload_n 0, 1) := by decide +kernel
theorem dX5_hasRoom_1 : decode cX5_hasRoom 1 = .ok (.getfield 19, 3) := by decide +kernel
theorem dX5_hasRoom_4 : decode cX5_hasRoom 4 = .ok (.sipush 780, 3) := by decide +kernel
theorem dX5_hasRoom_7 : decode cX5_hasRoom 7 = .ok (.if_icmp .gt 7, 3) := by decide +kernel
theorem dX5_hasRoom_10 : decode cX5_hasRoom 10 = .ok (.iconst 1, 1) := by decide +kernel
theorem dX5_hasRoom_11 : decode cX5_hasRoom 11 = .ok (.goto 4, 3) := by decide +kernel
theorem dX5_hasRoom_14 : decode cX5_hasRoom 14 = .ok (.iconst 0, 1) := by decide +kernel
theorem dX5_hasRoom_15 : decode cX5_hasRoom 15 = .ok (.ireturn, 1) := by decide +kernel
theorem dX5_take_0 : decode cX5_take 0 = .ok (.bipush 24, 2) := by decide +kernel
theorem dX5_take_2 : decode cX5_take 2 = .ok (.istore_n 2, 1) := by decide +kernel
theorem dX5_take_3 : decode cX5_take 3 = .ok (.iload_n 2, 1) := by decide +kernel
theorem dX5_take_4 : decode cX5_take 4 = .ok (.ifCond .lt 32, 3) := by decide +kernel
theorem dX5_take_7 : decode cX5_take 7 = .ok (.aload_n 0, 1) := by decide +kernel
theorem dX5_take_8 : decode cX5_take 8 = .ok (.getfield 9, 3) := by decide +kernel
theorem dX5_take_11 : decode cX5_take 11 = .ok (.aload_n 0, 1) := by decide +kernel
theorem dX5_take_12 : decode cX5_take 12 = .ok (.getfield 19, 3) := by decide +kernel
theorem dX5_take_15 : decode cX5_take 15 = .ok (.iload_n 1, 1) := by decide +kernel
theorem dX5_take_16 : decode cX5_take 16 = .ok (.iload_n 2, 1) := by decide +kernel
theorem dX5_take_17 : decode cX5_take 17 = .ok (.ishr, 1) := by decide +kernel
theorem dX5_take_18 : decode cX5_take 18 = .ok (.i2b, 1) := by decide +kernel
theorem dX5_take_19 : decode cX5_take 19 = .ok (.bastore, 1) := by decide +kernel
theorem dX5_take_20 : decode cX5_take 20 = .ok (.aload_n 0, 1) := by decide +kernel
theorem dX5_take_21 : decode cX5_take 21 = .ok (.dup, 1) := by decide +kernel
theorem dX5_take_22 : decode cX5_take 22 = .ok (.getfield 19, 3) := by decide +kernel
theorem dX5_take_25 : decode cX5_take 25 = .ok (.iconst 1, 1) := by decide +kernel
theorem dX5_take_26 : decode cX5_take 26 = .ok (.iadd, 1) := by decide +kernel
theorem dX5_take_27 : decode cX5_take 27 = .ok (.putfield 19, 3) := by decide +kernel
theorem dX5_take_30 : decode cX5_take 30 = .ok (.iinc 2 (-8), 3) := by decide +kernel
theorem dX5_take_33 : decode cX5_take 33 = .ok (.goto (-30), 3) := by decide +kernel
theorem dX5_take_36 : decode cX5_take 36 = .ok (.return_, 1) := by decide +kernel
theorem dX5_readInto_0 : decode cX5_readInto 0 = .ok (.aload_n 0, 1) := by decide +kernel
theorem dX5_readInto_1 : decode cX5_readInto 1 = .ok (.iconst 0, 1) := by decide +kernel
theorem dX5_readInto_2 : decode cX5_readInto 2 = .ok (.putfield 19, 3) := by decide +kernel
theorem dX5_readInto_5 : decode cX5_readInto 5 = .ok (.aload_n 0, 1) := by decide +kernel
theorem dX5_readInto_6 : decode cX5_readInto 6 = .ok (.iload_n 2, 1) := by decide +kernel
theorem dX5_readInto_7 : decode cX5_readInto 7 = .ok (.putfield 22, 3) := by decide +kernel
theorem dX5_readInto_10 : decode cX5_readInto 10 = .ok (.aload_n 0, 1) := by decide +kernel
theorem dX5_readInto_11 : decode cX5_readInto 11 = .ok (.iconst 0, 1) := by decide +kernel
theorem dX5_readInto_12 : decode cX5_readInto 12 = .ok (.putfield 25, 3) := by decide +kernel
theorem dX5_readInto_15 : decode cX5_readInto 15 = .ok (.aload_n 0, 1) := by decide +kernel
theorem dX5_readInto_16 : decode cX5_readInto 16 = .ok (.iconst 0, 1) := by decide +kernel
theorem dX5_readInto_17 : decode cX5_readInto 17 = .ok (.putfield 28, 3) := by decide +kernel
theorem dX5_readInto_20 : decode cX5_readInto 20 = .ok (.aload_n 0, 1) := by decide +kernel
theorem dX5_readInto_21 : decode cX5_readInto 21 = .ok (.iconst (-1), 1) := by decide +kernel
theorem dX5_readInto_22 : decode cX5_readInto 22 = .ok (.putfield 15, 3) := by decide +kernel
theorem dX5_readInto_25 : decode cX5_readInto 25 = .ok (.aload_n 1, 1) := by decide +kernel
theorem dX5_readInto_26 : decode cX5_readInto 26 = .ok (.invokevirtual 31, 3) := by decide +kernel
theorem dX5_readInto_29 : decode cX5_readInto 29 = .ok (.aload_n 0, 1) := by decide +kernel
theorem dX5_readInto_30 : decode cX5_readInto 30 = .ok (.aload_n 1, 1) := by decide +kernel
theorem dX5_readInto_31 : decode cX5_readInto 31 = .ok (.getfield 36, 3) := by decide +kernel
theorem dX5_readInto_34 : decode cX5_readInto 34 = .ok (.invokevirtual 40, 3) := by decide +kernel
theorem dX5_readInto_37 : decode cX5_readInto 37 = .ok (.ifCond .eq 40, 3) := by decide +kernel
theorem dX5_readInto_40 : decode cX5_readInto 40 = .ok (.aload_n 0, 1) := by decide +kernel
theorem dX5_readInto_41 : decode cX5_readInto 41 = .ok (.aload_n 1, 1) := by decide +kernel
theorem dX5_readInto_42 : decode cX5_readInto 42 = .ok (.getfield 36, 3) := by decide +kernel
theorem dX5_readInto_45 : decode cX5_readInto 45 = .ok (.invokevirtual 44, 3) := by decide +kernel
theorem dX5_readInto_48 : decode cX5_readInto 48 = .ok (.ifCond .eq 29, 3) := by decide +kernel
theorem dX5_readInto_51 : decode cX5_readInto 51 = .ok (.aload_n 0, 1) := by decide +kernel
theorem dX5_readInto_52 : decode cX5_readInto 52 = .ok (.aload_n 1, 1) := by decide +kernel
theorem dX5_readInto_53 : decode cX5_readInto 53 = .ok (.getfield 47, 3) := by decide +kernel
theorem dX5_readInto_56 : decode cX5_readInto 56 = .ok (.aload_n 1, 1) := by decide +kernel
theorem dX5_readInto_57 : decode cX5_readInto 57 = .ok (.getfield 36, 3) := by decide +kernel
theorem dX5_readInto_60 : decode cX5_readInto 60 = .ok (.invokevirtual 51, 3) := by decide +kernel
theorem dX5_readInto_63 : decode cX5_readInto 63 = .ok (.ifCond .eq 14, 3) := by decide +kernel
theorem dX5_readInto_66 : decode cX5_readInto 66 = .ok (.aload_n 0, 1) := by decide +kernel
theorem dX5_readInto_67 : decode cX5_readInto 67 = .ok (.invokevirtual 55, 3) := by decide +kernel
theorem dX5_readInto_70 : decode cX5_readInto 70 = .ok (.ifCond .eq 7, 3) := by decide +kernel
theorem dX5_readInto_73 : decode cX5_readInto 73 = .ok (.iconst 1, 1) := by decide +kernel
theorem dX5_readInto_74 : decode cX5_readInto 74 = .ok (.goto 4, 3) := by decide +kernel
theorem dX5_readInto_77 : decode cX5_readInto 77 = .ok (.iconst 0, 1) := by decide +kernel
theorem dX5_readInto_78 : decode cX5_readInto 78 = .ok (.istore_n 3, 1) := by decide +kernel
theorem dX5_readInto_79 : decode cX5_readInto 79 = .ok (.iload_n 3, 1) := by decide +kernel
theorem dX5_readInto_80 : decode cX5_readInto 80 = .ok (.ifCond .eq 13, 3) := by decide +kernel
theorem dX5_readInto_83 : decode cX5_readInto 83 = .ok (.aload_n 1, 1) := by decide +kernel
theorem dX5_readInto_84 : decode cX5_readInto 84 = .ok (.getfield 47, 3) := by decide +kernel
theorem dX5_readInto_87 : decode cX5_readInto 87 = .ok (.getfield 59, 3) := by decide +kernel
theorem dX5_readInto_90 : decode cX5_readInto 90 = .ok (.goto 7, 3) := by decide +kernel
theorem dX5_readInto_93 : decode cX5_readInto 93 = .ok (.aload_n 0, 1) := by decide +kernel
theorem dX5_readInto_94 : decode cX5_readInto 94 = .ok (.getfield 28, 3) := by decide +kernel
theorem dX5_readInto_97 : decode cX5_readInto 97 = .ok (.ireturn, 1) := by decide +kernel
theorem dX5_readNumbers_0 : decode cX5_readNumbers 0 = .ok (.aload_n 0, 1) := by decide +kernel
theorem dX5_readNumbers_1 : decode cX5_readNumbers 1 = .ok (.ldc 64, 2) := by decide +kernel
theorem dX5_readNumbers_3 : decode cX5_readNumbers 3 = .ok (.invokevirtual 66, 3) := by decide +kernel
theorem dX5_readNumbers_6 : decode cX5_readNumbers 6 = .ok (.ifCond .ne 14, 3) := by decide +kernel
theorem dX5_readNumbers_9 : decode cX5_readNumbers 9 = .ok (.aload_n 0, 1) := by decide +kernel
theorem dX5_readNumbers_10 : decode cX5_readNumbers 10 = .ok (.bipush (-2), 2) := by decide +kernel
theorem dX5_readNumbers_12 : decode cX5_readNumbers 12 = .ok (.aload_n 0, 1) := by decide +kernel
theorem dX5_readNumbers_13 : decode cX5_readNumbers 13 = .ok (.getfield 25, 3) := by decide +kernel
theorem dX5_readNumbers_16 : decode cX5_readNumbers 16 = .ok (.invokevirtual 70, 3) := by decide +kernel
theorem dX5_readNumbers_19 : decode cX5_readNumbers 19 = .ok (.ireturn, 1) := by decide +kernel
theorem dX5_readNumbers_20 : decode cX5_readNumbers 20 = .ok (.iconst 0, 1) := by decide +kernel
theorem dX5_readNumbers_21 : decode cX5_readNumbers 21 = .ok (.istore_n 2, 1) := by decide +kernel
theorem dX5_readNumbers_22 : decode cX5_readNumbers 22 = .ok (.iload_n 2, 1) := by decide +kernel
theorem dX5_readNumbers_23 : decode cX5_readNumbers 23 = .ok (.bipush 7, 2) := by decide +kernel
theorem dX5_readNumbers_25 : decode cX5_readNumbers 25 = .ok (.if_icmp .ge 38, 3) := by decide +kernel
theorem dX5_readNumbers_28 : decode cX5_readNumbers 28 = .ok (.aload_n 0, 1) := by decide +kernel
theorem dX5_readNumbers_29 : decode cX5_readNumbers 29 = .ok (.getstatic 74, 3) := by decide +kernel
theorem dX5_readNumbers_32 : decode cX5_readNumbers 32 = .ok (.iload_n 2, 1) := by decide +kernel
theorem dX5_readNumbers_33 : decode cX5_readNumbers 33 = .ok (.iaload, 1) := by decide +kernel
theorem dX5_readNumbers_34 : decode cX5_readNumbers 34 = .ok (.getstatic 78, 3) := by decide +kernel
theorem dX5_readNumbers_37 : decode cX5_readNumbers 37 = .ok (.iload_n 2, 1) := by decide +kernel
theorem dX5_readNumbers_38 : decode cX5_readNumbers 38 = .ok (.iaload, 1) := by decide +kernel
theorem dX5_readNumbers_39 : decode cX5_readNumbers 39 = .ok (.invokevirtual 81, 3) := by decide +kernel
theorem dX5_readNumbers_42 : decode cX5_readNumbers 42 = .ok (.ifCond .ne 5, 3) := by decide +kernel
theorem dX5_readNumbers_45 : decode cX5_readNumbers 45 = .ok (.iconst 0, 1) := by decide +kernel
theorem dX5_readNumbers_46 : decode cX5_readNumbers 46 = .ok (.ireturn, 1) := by decide +kernel
theorem dX5_readNumbers_47 : decode cX5_readNumbers 47 = .ok (.aload_n 1, 1) := by decide +kernel
theorem dX5_readNumbers_48 : decode cX5_readNumbers 48 = .ok (.getfield 84, 3) := by decide +kernel
theorem dX5_readNumbers_51 : decode cX5_readNumbers 51 = .ok (.iload_n 2, 1) := by decide +kernel
theorem dX5_readNumbers_52 : decode cX5_readNumbers 52 = .ok (.aload_n 0, 1) := by decide +kernel
theorem dX5_readNumbers_53 : decode cX5_readNumbers 53 = .ok (.getfield 89, 3) := by decide +kernel
theorem dX5_readNumbers_56 : decode cX5_readNumbers 56 = .ok (.iastore, 1) := by decide +kernel
theorem dX5_readNumbers_57 : decode cX5_readNumbers 57 = .ok (.iinc 2 1, 3) := by decide +kernel
theorem dX5_readNumbers_60 : decode cX5_readNumbers 60 = .ok (.goto (-38), 3) := by decide +kernel
theorem dX5_readNumbers_63 : decode cX5_readNumbers 63 = .ok (.aload_n 0, 1) := by decide +kernel
theorem dX5_readNumbers_64 : decode cX5_readNumbers 64 = .ok (.invokevirtual 92, 3) := by decide +kernel
theorem dX5_readNumbers_67 : decode cX5_readNumbers 67 = .ok (.ireturn, 1) := by decide +kernel
theorem dX5_readSpecies_0 : decode cX5_readSpecies 0 = .ok (.iconst 0, 1) := by decide +kernel
theorem dX5_readSpecies_1 : decode cX5_readSpecies 1 = .ok (.istore_n 2, 1) := by decide +kernel
theorem dX5_readSpecies_2 : decode cX5_readSpecies 2 = .ok (.iload_n 2, 1) := by decide +kernel
theorem dX5_readSpecies_3 : decode cX5_readSpecies 3 = .ok (.bipush 6, 2) := by decide +kernel
theorem dX5_readSpecies_5 : decode cX5_readSpecies 5 = .ok (.if_icmp .gt 100, 3) := by decide +kernel
theorem dX5_readSpecies_8 : decode cX5_readSpecies 8 = .ok (.aload_n 0, 1) := by decide +kernel
theorem dX5_readSpecies_9 : decode cX5_readSpecies 9 = .ok (.invokevirtual 95, 3) := by decide +kernel
theorem dX5_readSpecies_12 : decode cX5_readSpecies 12 = .ok (.istore_n 3, 1) := by decide +kernel
theorem dX5_readSpecies_13 : decode cX5_readSpecies 13 = .ok (.aload_n 0, 1) := by decide +kernel
theorem dX5_readSpecies_14 : decode cX5_readSpecies 14 = .ok (.ldc 99, 2) := by decide +kernel
theorem dX5_readSpecies_16 : decode cX5_readSpecies 16 = .ok (.invokevirtual 66, 3) := by decide +kernel
theorem dX5_readSpecies_19 : decode cX5_readSpecies 19 = .ok (.ifCond .ne 5, 3) := by decide +kernel
theorem dX5_readSpecies_22 : decode cX5_readSpecies 22 = .ok (.iconst 1, 1) := by decide +kernel
theorem dX5_readSpecies_23 : decode cX5_readSpecies 23 = .ok (.ireturn, 1) := by decide +kernel
theorem dX5_readSpecies_24 : decode cX5_readSpecies 24 = .ok (.iload_n 2, 1) := by decide +kernel
theorem dX5_readSpecies_25 : decode cX5_readSpecies 25 = .ok (.bipush 6, 2) := by decide +kernel
theorem dX5_readSpecies_27 : decode cX5_readSpecies 27 = .ok (.if_icmp .ne 11, 3) := by decide +kernel
theorem dX5_readSpecies_30 : decode cX5_readSpecies 30 = .ok (.aload_n 0, 1) := by decide +kernel
theorem dX5_readSpecies_31 : decode cX5_readSpecies 31 = .ok (.bipush (-4), 2) := by decide +kernel
theorem dX5_readSpecies_33 : decode cX5_readSpecies 33 = .ok (.iload_n 3, 1) := by decide +kernel
theorem dX5_readSpecies_34 : decode cX5_readSpecies 34 = .ok (.invokevirtual 70, 3) := by decide +kernel
theorem dX5_readSpecies_37 : decode cX5_readSpecies 37 = .ok (.ireturn, 1) := by decide +kernel
theorem dX5_readSpecies_38 : decode cX5_readSpecies 38 = .ok (.aload_n 0, 1) := by decide +kernel
theorem dX5_readSpecies_39 : decode cX5_readSpecies 39 = .ok (.iconst 0, 1) := by decide +kernel
theorem dX5_readSpecies_40 : decode cX5_readSpecies 40 = .ok (.ldc 101, 2) := by decide +kernel
theorem dX5_readSpecies_42 : decode cX5_readSpecies 42 = .ok (.invokevirtual 81, 3) := by decide +kernel
theorem dX5_readSpecies_45 : decode cX5_readSpecies 45 = .ok (.ifCond .ne 5, 3) := by decide +kernel
theorem dX5_readSpecies_48 : decode cX5_readSpecies 48 = .ok (.iconst 0, 1) := by decide +kernel
theorem dX5_readSpecies_49 : decode cX5_readSpecies 49 = .ok (.ireturn, 1) := by decide +kernel
theorem dX5_readSpecies_50 : decode cX5_readSpecies 50 = .ok (.aload_n 1, 1) := by decide +kernel
theorem dX5_readSpecies_51 : decode cX5_readSpecies 51 = .ok (.getfield 102, 3) := by decide +kernel
theorem dX5_readSpecies_54 : decode cX5_readSpecies 54 = .ok (.iload_n 2, 1) := by decide +kernel
theorem dX5_readSpecies_55 : decode cX5_readSpecies 55 = .ok (.aload_n 0, 1) := by decide +kernel
theorem dX5_readSpecies_56 : decode cX5_readSpecies 56 = .ok (.getfield 89, 3) := by decide +kernel
theorem dX5_readSpecies_59 : decode cX5_readSpecies 59 = .ok (.iastore, 1) := by decide +kernel
theorem dX5_readSpecies_60 : decode cX5_readSpecies 60 = .ok (.aload_n 0, 1) := by decide +kernel
theorem dX5_readSpecies_61 : decode cX5_readSpecies 61 = .ok (.iconst 1, 1) := by decide +kernel
theorem dX5_readSpecies_62 : decode cX5_readSpecies 62 = .ok (.sipush 10000, 3) := by decide +kernel
theorem dX5_readSpecies_65 : decode cX5_readSpecies 65 = .ok (.invokevirtual 81, 3) := by decide +kernel
theorem dX5_readSpecies_68 : decode cX5_readSpecies 68 = .ok (.ifCond .ne 5, 3) := by decide +kernel
theorem dX5_readSpecies_71 : decode cX5_readSpecies 71 = .ok (.iconst 0, 1) := by decide +kernel
theorem dX5_readSpecies_72 : decode cX5_readSpecies 72 = .ok (.ireturn, 1) := by decide +kernel
theorem dX5_readSpecies_73 : decode cX5_readSpecies 73 = .ok (.aload_n 1, 1) := by decide +kernel
theorem dX5_readSpecies_74 : decode cX5_readSpecies 74 = .ok (.getfield 105, 3) := by decide +kernel
theorem dX5_readSpecies_77 : decode cX5_readSpecies 77 = .ok (.iload_n 2, 1) := by decide +kernel
theorem dX5_readSpecies_78 : decode cX5_readSpecies 78 = .ok (.aload_n 0, 1) := by decide +kernel
theorem dX5_readSpecies_79 : decode cX5_readSpecies 79 = .ok (.getfield 89, 3) := by decide +kernel
theorem dX5_readSpecies_82 : decode cX5_readSpecies 82 = .ok (.iastore, 1) := by decide +kernel
theorem dX5_readSpecies_83 : decode cX5_readSpecies 83 = .ok (.aload_n 1, 1) := by decide +kernel
theorem dX5_readSpecies_84 : decode cX5_readSpecies 84 = .ok (.iload_n 2, 1) := by decide +kernel
theorem dX5_readSpecies_85 : decode cX5_readSpecies 85 = .ok (.iconst 1, 1) := by decide +kernel
theorem dX5_readSpecies_86 : decode cX5_readSpecies 86 = .ok (.iadd, 1) := by decide +kernel
theorem dX5_readSpecies_87 : decode cX5_readSpecies 87 = .ok (.putfield 108, 3) := by decide +kernel
theorem dX5_readSpecies_90 : decode cX5_readSpecies 90 = .ok (.aload_n 0, 1) := by decide +kernel
theorem dX5_readSpecies_91 : decode cX5_readSpecies 91 = .ok (.invokevirtual 92, 3) := by decide +kernel
theorem dX5_readSpecies_94 : decode cX5_readSpecies 94 = .ok (.ifCond .ne 5, 3) := by decide +kernel
theorem dX5_readSpecies_97 : decode cX5_readSpecies 97 = .ok (.iconst 0, 1) := by decide +kernel
theorem dX5_readSpecies_98 : decode cX5_readSpecies 98 = .ok (.ireturn, 1) := by decide +kernel
theorem dX5_readSpecies_99 : decode cX5_readSpecies 99 = .ok (.iinc 2 1, 3) := by decide +kernel
theorem dX5_readSpecies_102 : decode cX5_readSpecies 102 = .ok (.goto (-100), 3) := by decide +kernel
theorem dX5_readSpecies_105 : decode cX5_readSpecies 105 = .ok (.iconst 1, 1) := by decide +kernel
theorem dX5_readSpecies_106 : decode cX5_readSpecies 106 = .ok (.ireturn, 1) := by decide +kernel
theorem dX5_readPlots_0 : decode cX5_readPlots 0 = .ok (.bipush 30, 2) := by decide +kernel
theorem dX5_readPlots_2 : decode cX5_readPlots 2 = .ok (.aload_n 2, 1) := by decide +kernel
theorem dX5_readPlots_3 : decode cX5_readPlots 3 = .ok (.getfield 84, 3) := by decide +kernel
theorem dX5_readPlots_6 : decode cX5_readPlots 6 = .ok (.iconst 0, 1) := by decide +kernel
theorem dX5_readPlots_7 : decode cX5_readPlots 7 = .ok (.iaload, 1) := by decide +kernel
theorem dX5_readPlots_8 : decode cX5_readPlots 8 = .ok (.invokestatic 111, 3) := by decide +kernel
theorem dX5_readPlots_11 : decode cX5_readPlots 11 = .ok (.istore_n 3, 1) := by decide +kernel
theorem dX5_readPlots_12 : decode cX5_readPlots 12 = .ok (.iconst 0, 1) := by decide +kernel
theorem dX5_readPlots_13 : decode cX5_readPlots 13 = .ok (.istore 4, 2) := by decide +kernel
theorem dX5_readPlots_15 : decode cX5_readPlots 15 = .ok (.iload 4, 2) := by decide +kernel
theorem dX5_readPlots_17 : decode cX5_readPlots 17 = .ok (.iload_n 3, 1) := by decide +kernel
theorem dX5_readPlots_18 : decode cX5_readPlots 18 = .ok (.if_icmp .gt 106, 3) := by decide +kernel
theorem dX5_readPlots_21 : decode cX5_readPlots 21 = .ok (.aload_n 0, 1) := by decide +kernel
theorem dX5_readPlots_22 : decode cX5_readPlots 22 = .ok (.invokevirtual 95, 3) := by decide +kernel
theorem dX5_readPlots_25 : decode cX5_readPlots 25 = .ok (.istore 5, 2) := by decide +kernel
theorem dX5_readPlots_27 : decode cX5_readPlots 27 = .ok (.aload_n 0, 1) := by decide +kernel
theorem dX5_readPlots_28 : decode cX5_readPlots 28 = .ok (.ldc 117, 2) := by decide +kernel
theorem dX5_readPlots_30 : decode cX5_readPlots 30 = .ok (.invokevirtual 66, 3) := by decide +kernel
theorem dX5_readPlots_33 : decode cX5_readPlots 33 = .ok (.ifCond .ne 5, 3) := by decide +kernel
theorem dX5_readPlots_36 : decode cX5_readPlots 36 = .ok (.iconst 1, 1) := by decide +kernel
theorem dX5_readPlots_37 : decode cX5_readPlots 37 = .ok (.ireturn, 1) := by decide +kernel
theorem dX5_readPlots_38 : decode cX5_readPlots 38 = .ok (.iload 4, 2) := by decide +kernel
theorem dX5_readPlots_40 : decode cX5_readPlots 40 = .ok (.iload_n 3, 1) := by decide +kernel
theorem dX5_readPlots_41 : decode cX5_readPlots 41 = .ok (.if_icmp .ne 12, 3) := by decide +kernel
theorem dX5_readPlots_44 : decode cX5_readPlots 44 = .ok (.aload_n 0, 1) := by decide +kernel
theorem dX5_readPlots_45 : decode cX5_readPlots 45 = .ok (.bipush (-4), 2) := by decide +kernel
theorem dX5_readPlots_47 : decode cX5_readPlots 47 = .ok (.iload 5, 2) := by decide +kernel
theorem dX5_readPlots_49 : decode cX5_readPlots 49 = .ok (.invokevirtual 70, 3) := by decide +kernel
theorem dX5_readPlots_52 : decode cX5_readPlots 52 = .ok (.ireturn, 1) := by decide +kernel
theorem dX5_readPlots_53 : decode cX5_readPlots 53 = .ok (.iconst 0, 1) := by decide +kernel
theorem dX5_readPlots_54 : decode cX5_readPlots 54 = .ok (.istore 6, 2) := by decide +kernel
theorem dX5_readPlots_56 : decode cX5_readPlots 56 = .ok (.iload 6, 2) := by decide +kernel
theorem dX5_readPlots_58 : decode cX5_readPlots 58 = .ok (.aload_n 2, 1) := by decide +kernel
theorem dX5_readPlots_59 : decode cX5_readPlots 59 = .ok (.getfield 108, 3) := by decide +kernel
theorem dX5_readPlots_62 : decode cX5_readPlots 62 = .ok (.if_icmp .ge 39, 3) := by decide +kernel
theorem dX5_readPlots_65 : decode cX5_readPlots 65 = .ok (.aload_n 0, 1) := by decide +kernel
theorem dX5_readPlots_66 : decode cX5_readPlots 66 = .ok (.iconst 0, 1) := by decide +kernel
theorem dX5_readPlots_67 : decode cX5_readPlots 67 = .ok (.sipush 500, 3) := by decide +kernel
theorem dX5_readPlots_70 : decode cX5_readPlots 70 = .ok (.invokevirtual 81, 3) := by decide +kernel
theorem dX5_readPlots_73 : decode cX5_readPlots 73 = .ok (.ifCond .ne 5, 3) := by decide +kernel
theorem dX5_readPlots_76 : decode cX5_readPlots 76 = .ok (.iconst 0, 1) := by decide +kernel
theorem dX5_readPlots_77 : decode cX5_readPlots 77 = .ok (.ireturn, 1) := by decide +kernel
theorem dX5_readPlots_78 : decode cX5_readPlots 78 = .ok (.aload_n 1, 1) := by decide +kernel
theorem dX5_readPlots_79 : decode cX5_readPlots 79 = .ok (.getfield 119, 3) := by decide +kernel
theorem dX5_readPlots_82 : decode cX5_readPlots 82 = .ok (.iload 4, 2) := by decide +kernel
theorem dX5_readPlots_84 : decode cX5_readPlots 84 = .ok (.bipush 6, 2) := by decide +kernel
theorem dX5_readPlots_86 : decode cX5_readPlots 86 = .ok (.imul, 1) := by decide +kernel
theorem dX5_readPlots_87 : decode cX5_readPlots 87 = .ok (.iload 6, 2) := by decide +kernel
theorem dX5_readPlots_89 : decode cX5_readPlots 89 = .ok (.iadd, 1) := by decide +kernel
theorem dX5_readPlots_90 : decode cX5_readPlots 90 = .ok (.aload_n 0, 1) := by decide +kernel
theorem dX5_readPlots_91 : decode cX5_readPlots 91 = .ok (.getfield 89, 3) := by decide +kernel
theorem dX5_readPlots_94 : decode cX5_readPlots 94 = .ok (.iastore, 1) := by decide +kernel
theorem dX5_readPlots_95 : decode cX5_readPlots 95 = .ok (.iinc 6 1, 3) := by decide +kernel
theorem dX5_readPlots_98 : decode cX5_readPlots 98 = .ok (.goto (-42), 3) := by decide +kernel
theorem dX5_readPlots_101 : decode cX5_readPlots 101 = .ok (.aload_n 1, 1) := by decide +kernel
theorem dX5_readPlots_102 : decode cX5_readPlots 102 = .ok (.iload 4, 2) := by decide +kernel
theorem dX5_readPlots_104 : decode cX5_readPlots 104 = .ok (.iconst 1, 1) := by decide +kernel
theorem dX5_readPlots_105 : decode cX5_readPlots 105 = .ok (.iadd, 1) := by decide +kernel
theorem dX5_readPlots_106 : decode cX5_readPlots 106 = .ok (.putfield 59, 3) := by decide +kernel
theorem dX5_readPlots_109 : decode cX5_readPlots 109 = .ok (.aload_n 0, 1) := by decide +kernel
theorem dX5_readPlots_110 : decode cX5_readPlots 110 = .ok (.invokevirtual 92, 3) := by decide +kernel
theorem dX5_readPlots_113 : decode cX5_readPlots 113 = .ok (.ifCond .ne 5, 3) := by decide +kernel
theorem dX5_readPlots_116 : decode cX5_readPlots 116 = .ok (.iconst 0, 1) := by decide +kernel
theorem dX5_readPlots_117 : decode cX5_readPlots 117 = .ok (.ireturn, 1) := by decide +kernel
theorem dX5_readPlots_118 : decode cX5_readPlots 118 = .ok (.iinc 4 1, 3) := by decide +kernel
theorem dX5_readPlots_121 : decode cX5_readPlots 121 = .ok (.goto (-106), 3) := by decide +kernel
theorem dX5_readPlots_124 : decode cX5_readPlots 124 = .ok (.iconst 1, 1) := by decide +kernel
theorem dX5_readPlots_125 : decode cX5_readPlots 125 = .ok (.ireturn, 1) := by decide +kernel
theorem dX5_readEnd_0 : decode cX5_readEnd 0 = .ok (.aload_n 0, 1) := by decide +kernel
theorem dX5_readEnd_1 : decode cX5_readEnd 1 = .ok (.invokevirtual 95, 3) := by decide +kernel
theorem dX5_readEnd_4 : decode cX5_readEnd 4 = .ok (.istore_n 1, 1) := by decide +kernel
theorem dX5_readEnd_5 : decode cX5_readEnd 5 = .ok (.iload_n 1, 1) := by decide +kernel
theorem dX5_readEnd_6 : decode cX5_readEnd 6 = .ok (.aload_n 0, 1) := by decide +kernel
theorem dX5_readEnd_7 : decode cX5_readEnd 7 = .ok (.getfield 22, 3) := by decide +kernel
theorem dX5_readEnd_10 : decode cX5_readEnd 10 = .ok (.if_icmp .eq 13, 3) := by decide +kernel
theorem dX5_readEnd_13 : decode cX5_readEnd 13 = .ok (.aload_n 0, 1) := by decide +kernel
theorem dX5_readEnd_14 : decode cX5_readEnd 14 = .ok (.bipush (-2), 2) := by decide +kernel
theorem dX5_readEnd_16 : decode cX5_readEnd 16 = .ok (.iload_n 1, 1) := by decide +kernel
theorem dX5_readEnd_17 : decode cX5_readEnd 17 = .ok (.invokevirtual 70, 3) := by decide +kernel
theorem dX5_readEnd_20 : decode cX5_readEnd 20 = .ok (.ifCond .eq 7, 3) := by decide +kernel
theorem dX5_readEnd_23 : decode cX5_readEnd 23 = .ok (.iconst 1, 1) := by decide +kernel
theorem dX5_readEnd_24 : decode cX5_readEnd 24 = .ok (.goto 4, 3) := by decide +kernel
theorem dX5_readEnd_27 : decode cX5_readEnd 27 = .ok (.iconst 0, 1) := by decide +kernel
theorem dX5_readEnd_28 : decode cX5_readEnd 28 = .ok (.ireturn, 1) := by decide +kernel
theorem dX5_readWord_0 : decode cX5_readWord 0 = .ok (.aload_n 0, 1) := by decide +kernel
theorem dX5_readWord_1 : decode cX5_readWord 1 = .ok (.invokevirtual 95, 3) := by decide +kernel
theorem dX5_readWord_4 : decode cX5_readWord 4 = .ok (.istore_n 2, 1) := by decide +kernel
theorem dX5_readWord_5 : decode cX5_readWord 5 = .ok (.iconst 0, 1) := by decide +kernel
theorem dX5_readWord_6 : decode cX5_readWord 6 = .ok (.istore_n 3, 1) := by decide +kernel
theorem dX5_readWord_7 : decode cX5_readWord 7 = .ok (.iload_n 3, 1) := by decide +kernel
theorem dX5_readWord_8 : decode cX5_readWord 8 = .ok (.aload_n 1, 1) := by decide +kernel
theorem dX5_readWord_9 : decode cX5_readWord 9 = .ok (.invokevirtual 122, 3) := by decide +kernel
theorem dX5_readWord_12 : decode cX5_readWord 12 = .ok (.if_icmp .ge 26, 3) := by decide +kernel
theorem dX5_readWord_15 : decode cX5_readWord 15 = .ok (.aload_n 0, 1) := by decide +kernel
theorem dX5_readWord_16 : decode cX5_readWord 16 = .ok (.iload_n 2, 1) := by decide +kernel
theorem dX5_readWord_17 : decode cX5_readWord 17 = .ok (.iload_n 3, 1) := by decide +kernel
theorem dX5_readWord_18 : decode cX5_readWord 18 = .ok (.iadd, 1) := by decide +kernel
theorem dX5_readWord_19 : decode cX5_readWord 19 = .ok (.invokevirtual 127, 3) := by decide +kernel
theorem dX5_readWord_22 : decode cX5_readWord 22 = .ok (.aload_n 1, 1) := by decide +kernel
theorem dX5_readWord_23 : decode cX5_readWord 23 = .ok (.iload_n 3, 1) := by decide +kernel
theorem dX5_readWord_24 : decode cX5_readWord 24 = .ok (.invokevirtual 131, 3) := by decide +kernel
theorem dX5_readWord_27 : decode cX5_readWord 27 = .ok (.if_icmp .eq 5, 3) := by decide +kernel
theorem dX5_readWord_30 : decode cX5_readWord 30 = .ok (.iconst 0, 1) := by decide +kernel
theorem dX5_readWord_31 : decode cX5_readWord 31 = .ok (.ireturn, 1) := by decide +kernel
theorem dX5_readWord_32 : decode cX5_readWord 32 = .ok (.iinc 3 1, 3) := by decide +kernel
theorem dX5_readWord_35 : decode cX5_readWord 35 = .ok (.goto (-28), 3) := by decide +kernel
theorem dX5_readWord_38 : decode cX5_readWord 38 = .ok (.iload_n 2, 1) := by decide +kernel
theorem dX5_readWord_39 : decode cX5_readWord 39 = .ok (.aload_n 1, 1) := by decide +kernel
theorem dX5_readWord_40 : decode cX5_readWord 40 = .ok (.invokevirtual 122, 3) := by decide +kernel
theorem dX5_readWord_43 : decode cX5_readWord 43 = .ok (.iadd, 1) := by decide +kernel
theorem dX5_readWord_44 : decode cX5_readWord 44 = .ok (.istore_n 3, 1) := by decide +kernel
theorem dX5_readWord_45 : decode cX5_readWord 45 = .ok (.aload_n 0, 1) := by decide +kernel
theorem dX5_readWord_46 : decode cX5_readWord 46 = .ok (.aload_n 0, 1) := by decide +kernel
theorem dX5_readWord_47 : decode cX5_readWord 47 = .ok (.iload_n 3, 1) := by decide +kernel
theorem dX5_readWord_48 : decode cX5_readWord 48 = .ok (.invokevirtual 127, 3) := by decide +kernel
theorem dX5_readWord_51 : decode cX5_readWord 51 = .ok (.invokevirtual 135, 3) := by decide +kernel
theorem dX5_readWord_54 : decode cX5_readWord 54 = .ok (.ifCond .eq 5, 3) := by decide +kernel
theorem dX5_readWord_57 : decode cX5_readWord 57 = .ok (.iconst 0, 1) := by decide +kernel
theorem dX5_readWord_58 : decode cX5_readWord 58 = .ok (.ireturn, 1) := by decide +kernel
theorem dX5_readWord_59 : decode cX5_readWord 59 = .ok (.aload_n 0, 1) := by decide +kernel
theorem dX5_readWord_60 : decode cX5_readWord 60 = .ok (.iload_n 3, 1) := by decide +kernel
theorem dX5_readWord_61 : decode cX5_readWord 61 = .ok (.putfield 25, 3) := by decide +kernel
theorem dX5_readWord_64 : decode cX5_readWord 64 = .ok (.iconst 1, 1) := by decide +kernel
theorem dX5_readWord_65 : decode cX5_readWord 65 = .ok (.ireturn, 1) := by decide +kernel
theorem dX5_readNumber_0 : decode cX5_readNumber 0 = .ok (.aload_n 0, 1) := by decide +kernel
theorem dX5_readNumber_1 : decode cX5_readNumber 1 = .ok (.invokevirtual 95, 3) := by decide +kernel
theorem dX5_readNumber_4 : decode cX5_readNumber 4 = .ok (.istore_n 3, 1) := by decide +kernel
theorem dX5_readNumber_5 : decode cX5_readNumber 5 = .ok (.aload_n 0, 1) := by decide +kernel
theorem dX5_readNumber_6 : decode cX5_readNumber 6 = .ok (.aload_n 0, 1) := by decide +kernel
theorem dX5_readNumber_7 : decode cX5_readNumber 7 = .ok (.iload_n 3, 1) := by decide +kernel
theorem dX5_readNumber_8 : decode cX5_readNumber 8 = .ok (.invokevirtual 127, 3) := by decide +kernel
theorem dX5_readNumber_11 : decode cX5_readNumber 11 = .ok (.invokevirtual 139, 3) := by decide +kernel
theorem dX5_readNumber_14 : decode cX5_readNumber 14 = .ok (.ifCond .ne 11, 3) := by decide +kernel
theorem dX5_readNumber_17 : decode cX5_readNumber 17 = .ok (.aload_n 0, 1) := by decide +kernel
theorem dX5_readNumber_18 : decode cX5_readNumber 18 = .ok (.bipush (-2), 2) := by decide +kernel
theorem dX5_readNumber_20 : decode cX5_readNumber 20 = .ok (.iload_n 3, 1) := by decide +kernel
theorem dX5_readNumber_21 : decode cX5_readNumber 21 = .ok (.invokevirtual 70, 3) := by decide +kernel
theorem dX5_readNumber_24 : decode cX5_readNumber 24 = .ok (.ireturn, 1) := by decide +kernel
theorem dX5_readNumber_25 : decode cX5_readNumber 25 = .ok (.aload_n 0, 1) := by decide +kernel
theorem dX5_readNumber_26 : decode cX5_readNumber 26 = .ok (.iconst 0, 1) := by decide +kernel
theorem dX5_readNumber_27 : decode cX5_readNumber 27 = .ok (.putfield 89, 3) := by decide +kernel
theorem dX5_readNumber_30 : decode cX5_readNumber 30 = .ok (.aload_n 0, 1) := by decide +kernel
theorem dX5_readNumber_31 : decode cX5_readNumber 31 = .ok (.getfield 25, 3) := by decide +kernel
theorem dX5_readNumber_34 : decode cX5_readNumber 34 = .ok (.aload_n 0, 1) := by decide +kernel
theorem dX5_readNumber_35 : decode cX5_readNumber 35 = .ok (.getfield 22, 3) := by decide +kernel
theorem dX5_readNumber_38 : decode cX5_readNumber 38 = .ok (.if_icmp .ge 63, 3) := by decide +kernel
theorem dX5_readNumber_41 : decode cX5_readNumber 41 = .ok (.aload_n 0, 1) := by decide +kernel
theorem dX5_readNumber_42 : decode cX5_readNumber 42 = .ok (.aload_n 0, 1) := by decide +kernel
theorem dX5_readNumber_43 : decode cX5_readNumber 43 = .ok (.aload_n 0, 1) := by decide +kernel
theorem dX5_readNumber_44 : decode cX5_readNumber 44 = .ok (.getfield 25, 3) := by decide +kernel
theorem dX5_readNumber_47 : decode cX5_readNumber 47 = .ok (.invokevirtual 127, 3) := by decide +kernel
theorem dX5_readNumber_50 : decode cX5_readNumber 50 = .ok (.invokevirtual 139, 3) := by decide +kernel
theorem dX5_readNumber_53 : decode cX5_readNumber 53 = .ok (.ifCond .eq 48, 3) := by decide +kernel
theorem dX5_readNumber_56 : decode cX5_readNumber 56 = .ok (.aload_n 0, 1) := by decide +kernel
theorem dX5_readNumber_57 : decode cX5_readNumber 57 = .ok (.getfield 89, 3) := by decide +kernel
theorem dX5_readNumber_60 : decode cX5_readNumber 60 = .ok (.bipush 10, 2) := by decide +kernel
theorem dX5_readNumber_62 : decode cX5_readNumber 62 = .ok (.imul, 1) := by decide +kernel
theorem dX5_readNumber_63 : decode cX5_readNumber 63 = .ok (.aload_n 0, 1) := by decide +kernel
theorem dX5_readNumber_64 : decode cX5_readNumber 64 = .ok (.aload_n 0, 1) := by decide +kernel
theorem dX5_readNumber_65 : decode cX5_readNumber 65 = .ok (.getfield 25, 3) := by decide +kernel
theorem dX5_readNumber_68 : decode cX5_readNumber 68 = .ok (.invokevirtual 127, 3) := by decide +kernel
theorem dX5_readNumber_71 : decode cX5_readNumber 71 = .ok (.iadd, 1) := by decide +kernel
theorem dX5_readNumber_72 : decode cX5_readNumber 72 = .ok (.bipush 48, 2) := by decide +kernel
theorem dX5_readNumber_74 : decode cX5_readNumber 74 = .ok (.isub, 1) := by decide +kernel
theorem dX5_readNumber_75 : decode cX5_readNumber 75 = .ok (.istore 4, 2) := by decide +kernel
theorem dX5_readNumber_77 : decode cX5_readNumber 77 = .ok (.aload_n 0, 1) := by decide +kernel
theorem dX5_readNumber_78 : decode cX5_readNumber 78 = .ok (.iload 4, 2) := by decide +kernel
theorem dX5_readNumber_80 : decode cX5_readNumber 80 = .ok (.ldc 142, 2) := by decide +kernel
theorem dX5_readNumber_82 : decode cX5_readNumber 82 = .ok (.invokestatic 111, 3) := by decide +kernel
theorem dX5_readNumber_85 : decode cX5_readNumber 85 = .ok (.putfield 89, 3) := by decide +kernel
theorem dX5_readNumber_88 : decode cX5_readNumber 88 = .ok (.aload_n 0, 1) := by decide +kernel
theorem dX5_readNumber_89 : decode cX5_readNumber 89 = .ok (.dup, 1) := by decide +kernel
theorem dX5_readNumber_90 : decode cX5_readNumber 90 = .ok (.getfield 25, 3) := by decide +kernel
theorem dX5_readNumber_93 : decode cX5_readNumber 93 = .ok (.iconst 1, 1) := by decide +kernel
theorem dX5_readNumber_94 : decode cX5_readNumber 94 = .ok (.iadd, 1) := by decide +kernel
theorem dX5_readNumber_95 : decode cX5_readNumber 95 = .ok (.putfield 25, 3) := by decide +kernel
theorem dX5_readNumber_98 : decode cX5_readNumber 98 = .ok (.goto (-68), 3) := by decide +kernel
theorem dX5_readNumber_101 : decode cX5_readNumber 101 = .ok (.aload_n 0, 1) := by decide +kernel
theorem dX5_readNumber_102 : decode cX5_readNumber 102 = .ok (.getfield 89, 3) := by decide +kernel
theorem dX5_readNumber_105 : decode cX5_readNumber 105 = .ok (.iload_n 1, 1) := by decide +kernel
theorem dX5_readNumber_106 : decode cX5_readNumber 106 = .ok (.if_icmp .lt 11, 3) := by decide +kernel
theorem dX5_readNumber_109 : decode cX5_readNumber 109 = .ok (.aload_n 0, 1) := by decide +kernel
theorem dX5_readNumber_110 : decode cX5_readNumber 110 = .ok (.getfield 89, 3) := by decide +kernel
theorem dX5_readNumber_113 : decode cX5_readNumber 113 = .ok (.iload_n 2, 1) := by decide +kernel
theorem dX5_readNumber_114 : decode cX5_readNumber 114 = .ok (.if_icmp .le 13, 3) := by decide +kernel
theorem dX5_readNumber_117 : decode cX5_readNumber 117 = .ok (.aload_n 0, 1) := by decide +kernel
theorem dX5_readNumber_118 : decode cX5_readNumber 118 = .ok (.bipush (-3), 2) := by decide +kernel
theorem dX5_readNumber_120 : decode cX5_readNumber 120 = .ok (.iload_n 3, 1) := by decide +kernel
theorem dX5_readNumber_121 : decode cX5_readNumber 121 = .ok (.invokevirtual 70, 3) := by decide +kernel
theorem dX5_readNumber_124 : decode cX5_readNumber 124 = .ok (.ifCond .eq 7, 3) := by decide +kernel
theorem dX5_readNumber_127 : decode cX5_readNumber 127 = .ok (.iconst 1, 1) := by decide +kernel
theorem dX5_readNumber_128 : decode cX5_readNumber 128 = .ok (.goto 4, 3) := by decide +kernel
theorem dX5_readNumber_131 : decode cX5_readNumber 131 = .ok (.iconst 0, 1) := by decide +kernel
theorem dX5_readNumber_132 : decode cX5_readNumber 132 = .ok (.ireturn, 1) := by decide +kernel
theorem dX5_readSemicolon_0 : decode cX5_readSemicolon 0 = .ok (.aload_n 0, 1) := by decide +kernel
theorem dX5_readSemicolon_1 : decode cX5_readSemicolon 1 = .ok (.invokevirtual 95, 3) := by decide +kernel
theorem dX5_readSemicolon_4 : decode cX5_readSemicolon 4 = .ok (.istore_n 1, 1) := by decide +kernel
theorem dX5_readSemicolon_5 : decode cX5_readSemicolon 5 = .ok (.aload_n 0, 1) := by decide +kernel
theorem dX5_readSemicolon_6 : decode cX5_readSemicolon 6 = .ok (.iload_n 1, 1) := by decide +kernel
theorem dX5_readSemicolon_7 : decode cX5_readSemicolon 7 = .ok (.invokevirtual 127, 3) := by decide +kernel
theorem dX5_readSemicolon_10 : decode cX5_readSemicolon 10 = .ok (.bipush 59, 2) := by decide +kernel
theorem dX5_readSemicolon_12 : decode cX5_readSemicolon 12 = .ok (.if_icmp .eq 11, 3) := by decide +kernel
theorem dX5_readSemicolon_15 : decode cX5_readSemicolon 15 = .ok (.aload_n 0, 1) := by decide +kernel
theorem dX5_readSemicolon_16 : decode cX5_readSemicolon 16 = .ok (.bipush (-2), 2) := by decide +kernel
theorem dX5_readSemicolon_18 : decode cX5_readSemicolon 18 = .ok (.iload_n 1, 1) := by decide +kernel
theorem dX5_readSemicolon_19 : decode cX5_readSemicolon 19 = .ok (.invokevirtual 70, 3) := by decide +kernel
theorem dX5_readSemicolon_22 : decode cX5_readSemicolon 22 = .ok (.ireturn, 1) := by decide +kernel
theorem dX5_readSemicolon_23 : decode cX5_readSemicolon 23 = .ok (.aload_n 0, 1) := by decide +kernel
theorem dX5_readSemicolon_24 : decode cX5_readSemicolon 24 = .ok (.iload_n 1, 1) := by decide +kernel
theorem dX5_readSemicolon_25 : decode cX5_readSemicolon 25 = .ok (.iconst 1, 1) := by decide +kernel
theorem dX5_readSemicolon_26 : decode cX5_readSemicolon 26 = .ok (.iadd, 1) := by decide +kernel
theorem dX5_readSemicolon_27 : decode cX5_readSemicolon 27 = .ok (.putfield 25, 3) := by decide +kernel
theorem dX5_readSemicolon_30 : decode cX5_readSemicolon 30 = .ok (.iconst 1, 1) := by decide +kernel
theorem dX5_readSemicolon_31 : decode cX5_readSemicolon 31 = .ok (.ireturn, 1) := by decide +kernel
theorem dX5_startOfToken_0 : decode cX5_startOfToken 0 = .ok (.aload_n 0, 1) := by decide +kernel
theorem dX5_startOfToken_1 : decode cX5_startOfToken 1 = .ok (.getfield 25, 3) := by decide +kernel
theorem dX5_startOfToken_4 : decode cX5_startOfToken 4 = .ok (.aload_n 0, 1) := by decide +kernel
theorem dX5_startOfToken_5 : decode cX5_startOfToken 5 = .ok (.getfield 22, 3) := by decide +kernel
theorem dX5_startOfToken_8 : decode cX5_startOfToken 8 = .ok (.if_icmp .ge 29, 3) := by decide +kernel
theorem dX5_startOfToken_11 : decode cX5_startOfToken 11 = .ok (.aload_n 0, 1) := by decide +kernel
theorem dX5_startOfToken_12 : decode cX5_startOfToken 12 = .ok (.aload_n 0, 1) := by decide +kernel
theorem dX5_startOfToken_13 : decode cX5_startOfToken 13 = .ok (.getfield 25, 3) := by decide +kernel
theorem dX5_startOfToken_16 : decode cX5_startOfToken 16 = .ok (.invokevirtual 127, 3) := by decide +kernel
theorem dX5_startOfToken_19 : decode cX5_startOfToken 19 = .ok (.bipush 32, 2) := by decide +kernel
theorem dX5_startOfToken_21 : decode cX5_startOfToken 21 = .ok (.if_icmp .ne 16, 3) := by decide +kernel
theorem dX5_startOfToken_24 : decode cX5_startOfToken 24 = .ok (.aload_n 0, 1) := by decide +kernel
theorem dX5_startOfToken_25 : decode cX5_startOfToken 25 = .ok (.dup, 1) := by decide +kernel
theorem dX5_startOfToken_26 : decode cX5_startOfToken 26 = .ok (.getfield 25, 3) := by decide +kernel
theorem dX5_startOfToken_29 : decode cX5_startOfToken 29 = .ok (.iconst 1, 1) := by decide +kernel
theorem dX5_startOfToken_30 : decode cX5_startOfToken 30 = .ok (.iadd, 1) := by decide +kernel
theorem dX5_startOfToken_31 : decode cX5_startOfToken 31 = .ok (.putfield 25, 3) := by decide +kernel
theorem dX5_startOfToken_34 : decode cX5_startOfToken 34 = .ok (.goto (-34), 3) := by decide +kernel
theorem dX5_startOfToken_37 : decode cX5_startOfToken 37 = .ok (.aload_n 0, 1) := by decide +kernel
theorem dX5_startOfToken_38 : decode cX5_startOfToken 38 = .ok (.getfield 25, 3) := by decide +kernel
theorem dX5_startOfToken_41 : decode cX5_startOfToken 41 = .ok (.ireturn, 1) := by decide +kernel
theorem dX5_byteAt_0 : decode cX5_byteAt 0 = .ok (.iload_n 1, 1) := by decide +kernel
theorem dX5_byteAt_1 : decode cX5_byteAt 1 = .ok (.ifCond .lt 27, 3) := by decide +kernel
theorem dX5_byteAt_4 : decode cX5_byteAt 4 = .ok (.iload_n 1, 1) := by decide +kernel
theorem dX5_byteAt_5 : decode cX5_byteAt 5 = .ok (.aload_n 0, 1) := by decide +kernel
theorem dX5_byteAt_6 : decode cX5_byteAt 6 = .ok (.getfield 22, 3) := by decide +kernel
theorem dX5_byteAt_9 : decode cX5_byteAt 9 = .ok (.if_icmp .ge 19, 3) := by decide +kernel
theorem dX5_byteAt_12 : decode cX5_byteAt 12 = .ok (.iload_n 1, 1) := by decide +kernel
theorem dX5_byteAt_13 : decode cX5_byteAt 13 = .ok (.sipush 800, 3) := by decide +kernel
theorem dX5_byteAt_16 : decode cX5_byteAt 16 = .ok (.if_icmp .ge 12, 3) := by decide +kernel
theorem dX5_byteAt_19 : decode cX5_byteAt 19 = .ok (.aload_n 0, 1) := by decide +kernel
theorem dX5_byteAt_20 : decode cX5_byteAt 20 = .ok (.getfield 9, 3) := by decide +kernel
theorem dX5_byteAt_23 : decode cX5_byteAt 23 = .ok (.iload_n 1, 1) := by decide +kernel
theorem dX5_byteAt_24 : decode cX5_byteAt 24 = .ok (.baload, 1) := by decide +kernel
theorem dX5_byteAt_25 : decode cX5_byteAt 25 = .ok (.goto 4, 3) := by decide +kernel
theorem dX5_byteAt_28 : decode cX5_byteAt 28 = .ok (.iconst 0, 1) := by decide +kernel
theorem dX5_byteAt_29 : decode cX5_byteAt 29 = .ok (.ireturn, 1) := by decide +kernel
theorem dX5_isLetter_0 : decode cX5_isLetter 0 = .ok (.iload_n 1, 1) := by decide +kernel
theorem dX5_isLetter_1 : decode cX5_isLetter 1 = .ok (.bipush 97, 2) := by decide +kernel
theorem dX5_isLetter_3 : decode cX5_isLetter 3 = .ok (.if_icmp .lt 13, 3) := by decide +kernel
theorem dX5_isLetter_6 : decode cX5_isLetter 6 = .ok (.iload_n 1, 1) := by decide +kernel
theorem dX5_isLetter_7 : decode cX5_isLetter 7 = .ok (.bipush 122, 2) := by decide +kernel
theorem dX5_isLetter_9 : decode cX5_isLetter 9 = .ok (.if_icmp .gt 7, 3) := by decide +kernel
theorem dX5_isLetter_12 : decode cX5_isLetter 12 = .ok (.iconst 1, 1) := by decide +kernel
theorem dX5_isLetter_13 : decode cX5_isLetter 13 = .ok (.goto 4, 3) := by decide +kernel
theorem dX5_isLetter_16 : decode cX5_isLetter 16 = .ok (.iconst 0, 1) := by decide +kernel
theorem dX5_isLetter_17 : decode cX5_isLetter 17 = .ok (.ireturn, 1) := by decide +kernel
theorem dX5_isDigit_0 : decode cX5_isDigit 0 = .ok (.iload_n 1, 1) := by decide +kernel
theorem dX5_isDigit_1 : decode cX5_isDigit 1 = .ok (.bipush 48, 2) := by decide +kernel
theorem dX5_isDigit_3 : decode cX5_isDigit 3 = .ok (.if_icmp .lt 13, 3) := by decide +kernel
theorem dX5_isDigit_6 : decode cX5_isDigit 6 = .ok (.iload_n 1, 1) := by decide +kernel
theorem dX5_isDigit_7 : decode cX5_isDigit 7 = .ok (.bipush 57, 2) := by decide +kernel
theorem dX5_isDigit_9 : decode cX5_isDigit 9 = .ok (.if_icmp .gt 7, 3) := by decide +kernel
theorem dX5_isDigit_12 : decode cX5_isDigit 12 = .ok (.iconst 1, 1) := by decide +kernel
theorem dX5_isDigit_13 : decode cX5_isDigit 13 = .ok (.goto 4, 3) := by decide +kernel
theorem dX5_isDigit_16 : decode cX5_isDigit 16 = .ok (.iconst 0, 1) := by decide +kernel
theorem dX5_isDigit_17 : decode cX5_isDigit 17 = .ok (.ireturn, 1) := by decide +kernel
theorem dX5_fail_0 : decode cX5_fail 0 = .ok (.aload_n 0, 1) := by decide +kernel
theorem dX5_fail_1 : decode cX5_fail 1 = .ok (.iload_n 1, 1) := by decide +kernel
theorem dX5_fail_2 : decode cX5_fail 2 = .ok (.putfield 28, 3) := by decide +kernel
theorem dX5_fail_5 : decode cX5_fail 5 = .ok (.aload_n 0, 1) := by decide +kernel
theorem dX5_fail_6 : decode cX5_fail 6 = .ok (.iload_n 2, 1) := by decide +kernel
theorem dX5_fail_7 : decode cX5_fail 7 = .ok (.putfield 15, 3) := by decide +kernel
theorem dX5_fail_10 : decode cX5_fail 10 = .ok (.iconst 0, 1) := by decide +kernel
theorem dX5_fail_11 : decode cX5_fail 11 = .ok (.ireturn, 1) := by decide +kernel
theorem dX6_init_0 : decode cX6_init 0 = .ok (.aload_n 0, 1) := by decide +kernel
theorem dX6_init_1 : decode cX6_init 1 = .ok (.invokespecial 3, 3) := by decide +kernel
theorem dX6_init_4 : decode cX6_init 4 = .ok (.aload_n 0, 1) := by decide +kernel
theorem dX6_init_5 : decode cX6_init 5 = .ok (.new 9, 3) := by decide +kernel
theorem dX6_init_8 : decode cX6_init 8 = .ok (.dup, 1) := by decide +kernel
theorem dX6_init_9 : decode cX6_init 9 = .ok (.invokespecial 11, 3) := by decide +kernel
theorem dX6_init_12 : decode cX6_init 12 = .ok (.putfield 12, 3) := by decide +kernel
theorem dX6_init_15 : decode cX6_init 15 = .ok (.aload_n 0, 1) := by decide +kernel
theorem dX6_init_16 : decode cX6_init 16 = .ok (.new 18, 3) := by decide +kernel
theorem dX6_init_19 : decode cX6_init 19 = .ok (.dup, 1) := by decide +kernel
theorem dX6_init_20 : decode cX6_init 20 = .ok (.invokespecial 20, 3) := by decide +kernel
theorem dX6_init_23 : decode cX6_init 23 = .ok (.putfield 21, 3) := by decide +kernel
theorem dX6_init_26 : decode cX6_init 26 = .ok (.aload_n 0, 1) := by decide +kernel
theorem dX6_init_27 : decode cX6_init 27 = .ok (.new 25, 3) := by decide +kernel
theorem dX6_init_30 : decode cX6_init 30 = .ok (.dup, 1) := by decide +kernel
theorem dX6_init_31 : decode cX6_init 31 = .ok (.invokespecial 27, 3) := by decide +kernel
theorem dX6_init_34 : decode cX6_init 34 = .ok (.putfield 28, 3) := by decide +kernel
theorem dX6_init_37 : decode cX6_init 37 = .ok (.aload_n 0, 1) := by decide +kernel
theorem dX6_init_38 : decode cX6_init 38 = .ok (.new 32, 3) := by decide +kernel
theorem dX6_init_41 : decode cX6_init 41 = .ok (.dup, 1) := by decide +kernel
theorem dX6_init_42 : decode cX6_init 42 = .ok (.invokespecial 34, 3) := by decide +kernel
theorem dX6_init_45 : decode cX6_init 45 = .ok (.putfield 35, 3) := by decide +kernel
theorem dX6_init_48 : decode cX6_init 48 = .ok (.aload_n 0, 1) := by decide +kernel
theorem dX6_init_49 : decode cX6_init 49 = .ok (.new 39, 3) := by decide +kernel
theorem dX6_init_52 : decode cX6_init 52 = .ok (.dup, 1) := by decide +kernel
theorem dX6_init_53 : decode cX6_init 53 = .ok (.invokespecial 41, 3) := by decide +kernel
theorem dX6_init_56 : decode cX6_init 56 = .ok (.putfield 42, 3) := by decide +kernel
theorem dX6_init_59 : decode cX6_init 59 = .ok (.return_, 1) := by decide +kernel
theorem dX6_clear_0 : decode cX6_clear 0 = .ok (.aload_n 0, 1) := by decide +kernel
theorem dX6_clear_1 : decode cX6_clear 1 = .ok (.iconst 0, 1) := by decide +kernel
theorem dX6_clear_2 : decode cX6_clear 2 = .ok (.putfield 46, 3) := by decide +kernel
theorem dX6_clear_5 : decode cX6_clear 5 = .ok (.aload_n 0, 1) := by decide +kernel
theorem dX6_clear_6 : decode cX6_clear 6 = .ok (.getfield 12, 3) := by decide +kernel
theorem dX6_clear_9 : decode cX6_clear 9 = .ok (.invokevirtual 50, 3) := by decide +kernel
theorem dX6_clear_12 : decode cX6_clear 12 = .ok (.aload_n 0, 1) := by decide +kernel
theorem dX6_clear_13 : decode cX6_clear 13 = .ok (.getfield 21, 3) := by decide +kernel
theorem dX6_clear_16 : decode cX6_clear 16 = .ok (.invokevirtual 53, 3) := by decide +kernel
theorem dX6_clear_19 : decode cX6_clear 19 = .ok (.aload_n 0, 1) := by decide +kernel
theorem dX6_clear_20 : decode cX6_clear 20 = .ok (.getfield 28, 3) := by decide +kernel
theorem dX6_clear_23 : decode cX6_clear 23 = .ok (.invokevirtual 54, 3) := by decide +kernel
theorem dX6_clear_26 : decode cX6_clear 26 = .ok (.aload_n 0, 1) := by decide +kernel
theorem dX6_clear_27 : decode cX6_clear 27 = .ok (.getfield 35, 3) := by decide +kernel
theorem dX6_clear_30 : decode cX6_clear 30 = .ok (.invokevirtual 55, 3) := by decide +kernel
theorem dX6_clear_33 : decode cX6_clear 33 = .ok (.aload_n 0, 1) := by decide +kernel
theorem dX6_clear_34 : decode cX6_clear 34 = .ok (.getfield 42, 3) := by decide +kernel
theorem dX6_clear_37 : decode cX6_clear 37 = .ok (.invokevirtual 56, 3) := by decide +kernel
theorem dX6_clear_40 : decode cX6_clear 40 = .ok (.return_, 1) := by decide +kernel
theorem dX6_copyFrom_0 : decode cX6_copyFrom 0 = .ok (.aload_n 0, 1) := by decide +kernel
theorem dX6_copyFrom_1 : decode cX6_copyFrom 1 = .ok (.aload_n 1, 1) := by decide +kernel
theorem dX6_copyFrom_2 : decode cX6_copyFrom 2 = .ok (.getfield 46, 3) := by decide +kernel
theorem dX6_copyFrom_5 : decode cX6_copyFrom 5 = .ok (.putfield 46, 3) := by decide +kernel
theorem dX6_copyFrom_8 : decode cX6_copyFrom 8 = .ok (.aload_n 0, 1) := by decide +kernel
theorem dX6_copyFrom_9 : decode cX6_copyFrom 9 = .ok (.getfield 12, 3) := by decide +kernel
theorem dX6_copyFrom_12 : decode cX6_copyFrom 12 = .ok (.aload_n 1, 1) := by decide +kernel
theorem dX6_copyFrom_13 : decode cX6_copyFrom 13 = .ok (.getfield 12, 3) := by decide +kernel
theorem dX6_copyFrom_16 : decode cX6_copyFrom 16 = .ok (.invokevirtual 57, 3) := by decide +kernel
theorem dX6_copyFrom_19 : decode cX6_copyFrom 19 = .ok (.aload_n 0, 1) := by decide +kernel
theorem dX6_copyFrom_20 : decode cX6_copyFrom 20 = .ok (.getfield 21, 3) := by decide +kernel
theorem dX6_copyFrom_23 : decode cX6_copyFrom 23 = .ok (.aload_n 1, 1) := by decide +kernel
theorem dX6_copyFrom_24 : decode cX6_copyFrom 24 = .ok (.getfield 21, 3) := by decide +kernel
theorem dX6_copyFrom_27 : decode cX6_copyFrom 27 = .ok (.invokevirtual 61, 3) := by decide +kernel
theorem dX6_copyFrom_30 : decode cX6_copyFrom 30 = .ok (.aload_n 0, 1) := by decide +kernel
theorem dX6_copyFrom_31 : decode cX6_copyFrom 31 = .ok (.getfield 28, 3) := by decide +kernel
theorem dX6_copyFrom_34 : decode cX6_copyFrom 34 = .ok (.aload_n 1, 1) := by decide +kernel
theorem dX6_copyFrom_35 : decode cX6_copyFrom 35 = .ok (.getfield 28, 3) := by decide +kernel
theorem dX6_copyFrom_38 : decode cX6_copyFrom 38 = .ok (.invokevirtual 64, 3) := by decide +kernel
theorem dX6_copyFrom_41 : decode cX6_copyFrom 41 = .ok (.aload_n 0, 1) := by decide +kernel
theorem dX6_copyFrom_42 : decode cX6_copyFrom 42 = .ok (.getfield 35, 3) := by decide +kernel
theorem dX6_copyFrom_45 : decode cX6_copyFrom 45 = .ok (.aload_n 1, 1) := by decide +kernel
theorem dX6_copyFrom_46 : decode cX6_copyFrom 46 = .ok (.getfield 35, 3) := by decide +kernel
theorem dX6_copyFrom_49 : decode cX6_copyFrom 49 = .ok (.invokevirtual 67, 3) := by decide +kernel
theorem dX6_copyFrom_52 : decode cX6_copyFrom 52 = .ok (.aload_n 0, 1) := by decide +kernel
theorem dX6_copyFrom_53 : decode cX6_copyFrom 53 = .ok (.getfield 42, 3) := by decide +kernel
theorem dX6_copyFrom_56 : decode cX6_copyFrom 56 = .ok (.aload_n 1, 1) := by decide +kernel
theorem dX6_copyFrom_57 : decode cX6_copyFrom 57 = .ok (.getfield 42, 3) := by decide +kernel
theorem dX6_copyFrom_60 : decode cX6_copyFrom 60 = .ok (.invokevirtual 70, 3) := by decide +kernel
theorem dX6_copyFrom_63 : decode cX6_copyFrom 63 = .ok (.return_, 1) := by decide +kernel
theorem dX6_isBidding_0 : decode cX6_isBidding 0 = .ok (.aload_n 0, 1) := by decide +kernel
theorem dX6_isBidding_1 : decode cX6_isBidding 1 = .ok (.getfield 46, 3) := by decide +kernel
theorem dX6_isBidding_4 : decode cX6_isBidding 4 = .ok (.iconst 1, 1) := by decide +kernel
theorem dX6_isBidding_5 : decode cX6_isBidding 5 = .ok (.if_icmp .eq 12, 3) := by decide +kernel
theorem dX6_isBidding_8 : decode cX6_isBidding 8 = .ok (.aload_n 0, 1) := by decide +kernel
theorem dX6_isBidding_9 : decode cX6_isBidding 9 = .ok (.getfield 46, 3) := by decide +kernel
theorem dX6_isBidding_12 : decode cX6_isBidding 12 = .ok (.bipush 6, 2) := by decide +kernel
theorem dX6_isBidding_14 : decode cX6_isBidding 14 = .ok (.if_icmp .ne 7, 3) := by decide +kernel
theorem dX6_isBidding_17 : decode cX6_isBidding 17 = .ok (.iconst 1, 1) := by decide +kernel
theorem dX6_isBidding_18 : decode cX6_isBidding 18 = .ok (.goto 4, 3) := by decide +kernel
theorem dX6_isBidding_21 : decode cX6_isBidding 21 = .ok (.iconst 0, 1) := by decide +kernel
theorem dX6_isBidding_22 : decode cX6_isBidding 22 = .ok (.ireturn, 1) := by decide +kernel
theorem dX6_hasOpenBids_0 : decode cX6_hasOpenBids 0 = .ok (.aload_n 0, 1) := by decide +kernel
theorem dX6_hasOpenBids_1 : decode cX6_hasOpenBids 1 = .ok (.getfield 46, 3) := by decide +kernel
theorem dX6_hasOpenBids_4 : decode cX6_hasOpenBids 4 = .ok (.ifCond .eq 14, 3) := by decide +kernel
theorem dX6_hasOpenBids_7 : decode cX6_hasOpenBids 7 = .ok (.aload_n 0, 1) := by decide +kernel
theorem dX6_hasOpenBids_8 : decode cX6_hasOpenBids 8 = .ok (.invokevirtual 73, 3) := by decide +kernel
theorem dX6_hasOpenBids_11 : decode cX6_hasOpenBids 11 = .ok (.ifCond .ne 7, 3) := by decide +kernel
theorem dX6_hasOpenBids_14 : decode cX6_hasOpenBids 14 = .ok (.iconst 1, 1) := by decide +kernel
theorem dX6_hasOpenBids_15 : decode cX6_hasOpenBids 15 = .ok (.goto 4, 3) := by decide +kernel
theorem dX6_hasOpenBids_18 : decode cX6_hasOpenBids 18 = .ok (.iconst 0, 1) := by decide +kernel
theorem dX6_hasOpenBids_19 : decode cX6_hasOpenBids 19 = .ok (.ireturn, 1) := by decide +kernel
theorem dX6_hasContract_0 : decode cX6_hasContract 0 = .ok (.aload_n 0, 1) := by decide +kernel
theorem dX6_hasContract_1 : decode cX6_hasContract 1 = .ok (.getfield 46, 3) := by decide +kernel
theorem dX6_hasContract_4 : decode cX6_hasContract 4 = .ok (.iconst 3, 1) := by decide +kernel
theorem dX6_hasContract_5 : decode cX6_hasContract 5 = .ok (.if_icmp .lt 7, 3) := by decide +kernel
theorem dX6_hasContract_8 : decode cX6_hasContract 8 = .ok (.iconst 1, 1) := by decide +kernel
theorem dX6_hasContract_9 : decode cX6_hasContract 9 = .ok (.goto 4, 3) := by decide +kernel
theorem dX6_hasContract_12 : decode cX6_hasContract 12 = .ok (.iconst 0, 1) := by decide +kernel
theorem dX6_hasContract_13 : decode cX6_hasContract 13 = .ok (.ireturn, 1) := by decide +kernel
theorem dX6_beginBidding_0 : decode cX6_beginBidding 0 = .ok (.iconst 0, 1) := by decide +kernel
theorem dX6_beginBidding_1 : decode cX6_beginBidding 1 = .ok (.istore_n 1, 1) := by decide +kernel
theorem dX6_beginBidding_2 : decode cX6_beginBidding 2 = .ok (.iload_n 1, 1) := by decide +kernel
theorem dX6_beginBidding_3 : decode cX6_beginBidding 3 = .ok (.aload_n 0, 1) := by decide +kernel
theorem dX6_beginBidding_4 : decode cX6_beginBidding 4 = .ok (.getfield 12, 3) := by decide +kernel
theorem dX6_beginBidding_7 : decode cX6_beginBidding 7 = .ok (.getfield 77, 3) := by decide +kernel
theorem dX6_beginBidding_10 : decode cX6_beginBidding 10 = .ok (.if_icmp .ge 35, 3) := by decide +kernel
theorem dX6_beginBidding_13 : decode cX6_beginBidding 13 = .ok (.aload_n 0, 1) := by decide +kernel
theorem dX6_beginBidding_14 : decode cX6_beginBidding 14 = .ok (.getfield 28, 3) := by decide +kernel
theorem dX6_beginBidding_17 : decode cX6_beginBidding 17 = .ok (.getfield 80, 3) := by decide +kernel
theorem dX6_beginBidding_20 : decode cX6_beginBidding 20 = .ok (.iload_n 1, 1) := by decide +kernel
theorem dX6_beginBidding_21 : decode cX6_beginBidding 21 = .ok (.aload_n 0, 1) := by decide +kernel
theorem dX6_beginBidding_22 : decode cX6_beginBidding 22 = .ok (.getfield 21, 3) := by decide +kernel
theorem dX6_beginBidding_25 : decode cX6_beginBidding 25 = .ok (.iload_n 1, 1) := by decide +kernel
theorem dX6_beginBidding_26 : decode cX6_beginBidding 26 = .ok (.aload_n 0, 1) := by decide +kernel
theorem dX6_beginBidding_27 : decode cX6_beginBidding 27 = .ok (.getfield 12, 3) := by decide +kernel
theorem dX6_beginBidding_30 : decode cX6_beginBidding 30 = .ok (.getfield 84, 3) := by decide +kernel
theorem dX6_beginBidding_33 : decode cX6_beginBidding 33 = .ok (.iconst 0, 1) := by decide +kernel
theorem dX6_beginBidding_34 : decode cX6_beginBidding 34 = .ok (.iaload, 1) := by decide +kernel
theorem dX6_beginBidding_35 : decode cX6_beginBidding 35 = .ok (.invokevirtual 87, 3) := by decide +kernel
theorem dX6_beginBidding_38 : decode cX6_beginBidding 38 = .ok (.iastore, 1) := by decide +kernel
theorem dX6_beginBidding_39 : decode cX6_beginBidding 39 = .ok (.iinc 1 1, 3) := by decide +kernel
theorem dX6_beginBidding_42 : decode cX6_beginBidding 42 = .ok (.goto (-40), 3) := by decide +kernel
theorem dX6_beginBidding_45 : decode cX6_beginBidding 45 = .ok (.aload_n 0, 1) := by decide +kernel
theorem dX6_beginBidding_46 : decode cX6_beginBidding 46 = .ok (.iconst 1, 1) := by decide +kernel
theorem dX6_beginBidding_47 : decode cX6_beginBidding 47 = .ok (.putfield 46, 3) := by decide +kernel
theorem dX6_beginBidding_50 : decode cX6_beginBidding 50 = .ok (.return_, 1) := by decide +kernel
theorem dX6_beginSecondBidding_0 : decode cX6_beginSecondBidding 0 = .ok (.aload_n 0, 1) := by decide +kernel
theorem dX6_beginSecondBidding_1 : decode cX6_beginSecondBidding 1 = .ok (.getfield 28, 3) := by decide +kernel
theorem dX6_beginSecondBidding_4 : decode cX6_beginSecondBidding 4 = .ok (.invokevirtual 54, 3) := by decide +kernel
theorem dX6_beginSecondBidding_7 : decode cX6_beginSecondBidding 7 = .ok (.iconst 0, 1) := by decide +kernel
theorem dX6_beginSecondBidding_8 : decode cX6_beginSecondBidding 8 = .ok (.istore_n 1, 1) := by decide +kernel
theorem dX6_beginSecondBidding_9 : decode cX6_beginSecondBidding 9 = .ok (.iload_n 1, 1) := by decide +kernel
theorem dX6_beginSecondBidding_10 : decode cX6_beginSecondBidding 10 = .ok (.aload_n 0, 1) := by decide +kernel
theorem dX6_beginSecondBidding_11 : decode cX6_beginSecondBidding 11 = .ok (.getfield 12, 3) := by decide +kernel
theorem dX6_beginSecondBidding_14 : decode cX6_beginSecondBidding 14 = .ok (.getfield 77, 3) := by decide +kernel
theorem dX6_beginSecondBidding_17 : decode cX6_beginSecondBidding 17 = .ok (.if_icmp .ge 23, 3) := by decide +kernel
theorem dX6_beginSecondBidding_20 : decode cX6_beginSecondBidding 20 = .ok (.aload_n 0, 1) := by decide +kernel
theorem dX6_beginSecondBidding_21 : decode cX6_beginSecondBidding 21 = .ok (.getfield 28, 3) := by decide +kernel
theorem dX6_beginSecondBidding_24 : decode cX6_beginSecondBidding 24 = .ok (.getfield 80, 3) := by decide +kernel
theorem dX6_beginSecondBidding_27 : decode cX6_beginSecondBidding 27 = .ok (.iload_n 1, 1) := by decide +kernel
theorem dX6_beginSecondBidding_28 : decode cX6_beginSecondBidding 28 = .ok (.aload_n 0, 1) := by decide +kernel
theorem dX6_beginSecondBidding_29 : decode cX6_beginSecondBidding 29 = .ok (.iload_n 1, 1) := by decide +kernel
theorem dX6_beginSecondBidding_30 : decode cX6_beginSecondBidding 30 = .ok (.invokevirtual 91, 3) := by decide +kernel
theorem dX6_beginSecondBidding_33 : decode cX6_beginSecondBidding 33 = .ok (.iastore, 1) := by decide +kernel
theorem dX6_beginSecondBidding_34 : decode cX6_beginSecondBidding 34 = .ok (.iinc 1 1, 3) := by decide +kernel
theorem dX6_beginSecondBidding_37 : decode cX6_beginSecondBidding 37 = .ok (.goto (-28), 3) := by decide +kernel
theorem dX6_beginSecondBidding_40 : decode cX6_beginSecondBidding 40 = .ok (.aload_n 0, 1) := by decide +kernel
theorem dX6_beginSecondBidding_41 : decode cX6_beginSecondBidding 41 = .ok (.getfield 28, 3) := by decide +kernel
theorem dX6_beginSecondBidding_44 : decode cX6_beginSecondBidding 44 = .ok (.aload_n 0, 1) := by decide +kernel
theorem dX6_beginSecondBidding_45 : decode cX6_beginSecondBidding 45 = .ok (.getfield 35, 3) := by decide +kernel
theorem dX6_beginSecondBidding_48 : decode cX6_beginSecondBidding 48 = .ok (.getfield 95, 3) := by decide +kernel
theorem dX6_beginSecondBidding_51 : decode cX6_beginSecondBidding 51 = .ok (.putfield 98, 3) := by decide +kernel
theorem dX6_beginSecondBidding_54 : decode cX6_beginSecondBidding 54 = .ok (.aload_n 0, 1) := by decide +kernel
theorem dX6_beginSecondBidding_55 : decode cX6_beginSecondBidding 55 = .ok (.bipush 6, 2) := by decide +kernel
theorem dX6_beginSecondBidding_57 : decode cX6_beginSecondBidding 57 = .ok (.putfield 46, 3) := by decide +kernel
theorem dX6_beginSecondBidding_60 : decode cX6_beginSecondBidding 60 = .ok (.return_, 1) := by decide +kernel
theorem dX6_beginContract_0 : decode cX6_beginContract 0 = .ok (.iconst 0, 1) := by decide +kernel
theorem dX6_beginContract_1 : decode cX6_beginContract 1 = .ok (.istore_n 2, 1) := by decide +kernel
theorem dX6_beginContract_2 : decode cX6_beginContract 2 = .ok (.iload_n 2, 1) := by decide +kernel
theorem dX6_beginContract_3 : decode cX6_beginContract 3 = .ok (.bipush 6, 2) := by decide +kernel
theorem dX6_beginContract_5 : decode cX6_beginContract 5 = .ok (.if_icmp .ge 45, 3) := by decide +kernel
theorem dX6_beginContract_8 : decode cX6_beginContract 8 = .ok (.aload_n 0, 1) := by decide +kernel
theorem dX6_beginContract_9 : decode cX6_beginContract 9 = .ok (.getfield 35, 3) := by decide +kernel
theorem dX6_beginContract_12 : decode cX6_beginContract 12 = .ok (.getfield 101, 3) := by decide +kernel
theorem dX6_beginContract_15 : decode cX6_beginContract 15 = .ok (.iload_n 2, 1) := by decide +kernel
theorem dX6_beginContract_16 : decode cX6_beginContract 16 = .ok (.aload_n 0, 1) := by decide +kernel
theorem dX6_beginContract_17 : decode cX6_beginContract 17 = .ok (.getfield 28, 3) := by decide +kernel
theorem dX6_beginContract_20 : decode cX6_beginContract 20 = .ok (.getfield 80, 3) := by decide +kernel
theorem dX6_beginContract_23 : decode cX6_beginContract 23 = .ok (.iload_n 2, 1) := by decide +kernel
theorem dX6_beginContract_24 : decode cX6_beginContract 24 = .ok (.iaload, 1) := by decide +kernel
theorem dX6_beginContract_25 : decode cX6_beginContract 25 = .ok (.iastore, 1) := by decide +kernel
theorem dX6_beginContract_26 : decode cX6_beginContract 26 = .ok (.aload_n 0, 1) := by decide +kernel
theorem dX6_beginContract_27 : decode cX6_beginContract 27 = .ok (.getfield 35, 3) := by decide +kernel
theorem dX6_beginContract_30 : decode cX6_beginContract 30 = .ok (.getfield 102, 3) := by decide +kernel
theorem dX6_beginContract_33 : decode cX6_beginContract 33 = .ok (.iload_n 2, 1) := by decide +kernel
theorem dX6_beginContract_34 : decode cX6_beginContract 34 = .ok (.aload_n 0, 1) := by decide +kernel
theorem dX6_beginContract_35 : decode cX6_beginContract 35 = .ok (.getfield 28, 3) := by decide +kernel
theorem dX6_beginContract_38 : decode cX6_beginContract 38 = .ok (.iload_n 1, 1) := by decide +kernel
theorem dX6_beginContract_39 : decode cX6_beginContract 39 = .ok (.iload_n 2, 1) := by decide +kernel
theorem dX6_beginContract_40 : decode cX6_beginContract 40 = .ok (.invokevirtual 105, 3) := by decide +kernel
theorem dX6_beginContract_43 : decode cX6_beginContract 43 = .ok (.iastore, 1) := by decide +kernel
theorem dX6_beginContract_44 : decode cX6_beginContract 44 = .ok (.iinc 2 1, 3) := by decide +kernel
theorem dX6_beginContract_47 : decode cX6_beginContract 47 = .ok (.goto (-45), 3) := by decide +kernel
theorem dX6_beginContract_50 : decode cX6_beginContract 50 = .ok (.aload_n 0, 1) := by decide +kernel
theorem dX6_beginContract_51 : decode cX6_beginContract 51 = .ok (.getfield 35, 3) := by decide +kernel
theorem dX6_beginContract_54 : decode cX6_beginContract 54 = .ok (.aload_n 0, 1) := by decide +kernel
theorem dX6_beginContract_55 : decode cX6_beginContract 55 = .ok (.getfield 28, 3) := by decide +kernel
theorem dX6_beginContract_58 : decode cX6_beginContract 58 = .ok (.getfield 108, 3) := by decide +kernel
theorem dX6_beginContract_61 : decode cX6_beginContract 61 = .ok (.iload_n 1, 1) := by decide +kernel
theorem dX6_beginContract_62 : decode cX6_beginContract 62 = .ok (.iaload, 1) := by decide +kernel
theorem dX6_beginContract_63 : decode cX6_beginContract 63 = .ok (.putfield 111, 3) := by decide +kernel
theorem dX6_beginContract_66 : decode cX6_beginContract 66 = .ok (.aload_n 0, 1) := by decide +kernel
theorem dX6_beginContract_67 : decode cX6_beginContract 67 = .ok (.getfield 35, 3) := by decide +kernel
theorem dX6_beginContract_70 : decode cX6_beginContract 70 = .ok (.iload_n 1, 1) := by decide +kernel
theorem dX6_beginContract_71 : decode cX6_beginContract 71 = .ok (.putfield 95, 3) := by decide +kernel
theorem dX6_beginContract_74 : decode cX6_beginContract 74 = .ok (.aload_n 0, 1) := by decide +kernel
theorem dX6_beginContract_75 : decode cX6_beginContract 75 = .ok (.iconst 3, 1) := by decide +kernel
theorem dX6_beginContract_76 : decode cX6_beginContract 76 = .ok (.putfield 46, 3) := by decide +kernel
theorem dX6_beginContract_79 : decode cX6_beginContract 79 = .ok (.return_, 1) := by decide +kernel
theorem dX6_chargeOf_0 : decode cX6_chargeOf 0 = .ok (.aload_n 0, 1) := by decide +kernel
theorem dX6_chargeOf_1 : decode cX6_chargeOf 1 = .ok (.getfield 12, 3) := by decide +kernel
theorem dX6_chargeOf_4 : decode cX6_chargeOf 4 = .ok (.getfield 84, 3) := by decide +kernel
theorem dX6_chargeOf_7 : decode cX6_chargeOf 7 = .ok (.iconst 4, 1) := by decide +kernel
theorem dX6_chargeOf_8 : decode cX6_chargeOf 8 = .ok (.iaload, 1) := by decide +kernel
theorem dX6_chargeOf_9 : decode cX6_chargeOf 9 = .ok (.istore_n 2, 1) := by decide +kernel
theorem dX6_chargeOf_10 : decode cX6_chargeOf 10 = .ok (.aload_n 0, 1) := by decide +kernel
theorem dX6_chargeOf_11 : decode cX6_chargeOf 11 = .ok (.getfield 42, 3) := by decide +kernel
theorem dX6_chargeOf_14 : decode cX6_chargeOf 14 = .ok (.iload_n 2, 1) := by decide +kernel
theorem dX6_chargeOf_15 : decode cX6_chargeOf 15 = .ok (.invokevirtual 114, 3) := by decide +kernel
theorem dX6_chargeOf_18 : decode cX6_chargeOf 18 = .ok (.lstore_n 3, 1) := by decide +kernel
theorem dX6_chargeOf_19 : decode cX6_chargeOf 19 = .ok (.aload_n 0, 1) := by decide +kernel
theorem dX6_chargeOf_20 : decode cX6_chargeOf 20 = .ok (.getfield 42, 3) := by decide +kernel
theorem dX6_chargeOf_23 : decode cX6_chargeOf 23 = .ok (.iload_n 2, 1) := by decide +kernel
theorem dX6_chargeOf_24 : decode cX6_chargeOf 24 = .ok (.invokevirtual 118, 3) := by decide +kernel
theorem dX6_chargeOf_27 : decode cX6_chargeOf 27 = .ok (.ldc2_w 121, 3) := by decide +kernel
theorem dX6_chargeOf_30 : decode cX6_chargeOf 30 = .ok (.lmul, 1) := by decide +kernel
theorem dX6_chargeOf_31 : decode cX6_chargeOf 31 = .ok (.lstore 5, 2) := by decide +kernel
theorem dX6_chargeOf_33 : decode cX6_chargeOf 33 = .ok (.lload 5, 2) := by decide +kernel
theorem dX6_chargeOf_35 : decode cX6_chargeOf 35 = .ok (.lconst 0, 1) := by decide +kernel
theorem dX6_chargeOf_36 : decode cX6_chargeOf 36 = .ok (.lcmp, 1) := by decide +kernel
theorem dX6_chargeOf_37 : decode cX6_chargeOf 37 = .ok (.ifCond .ne 5, 3) := by decide +kernel
theorem dX6_chargeOf_40 : decode cX6_chargeOf 40 = .ok (.lconst 0, 1) := by decide +kernel
theorem dX6_chargeOf_41 : decode cX6_chargeOf 41 = .ok (.lreturn, 1) := by decide +kernel
theorem dX6_chargeOf_42 : decode cX6_chargeOf 42 = .ok (.iload_n 1, 1) := by decide +kernel
theorem dX6_chargeOf_43 : decode cX6_chargeOf 43 = .ok (.iconst 3, 1) := by decide +kernel
theorem dX6_chargeOf_44 : decode cX6_chargeOf 44 = .ok (.idiv, 1) := by decide +kernel
theorem dX6_chargeOf_45 : decode cX6_chargeOf 45 = .ok (.istore 7, 2) := by decide +kernel
theorem dX6_chargeOf_47 : decode cX6_chargeOf 47 = .ok (.lconst 0, 1) := by decide +kernel
theorem dX6_chargeOf_48 : decode cX6_chargeOf 48 = .ok (.lstore 8, 2) := by decide +kernel
theorem dX6_chargeOf_50 : decode cX6_chargeOf 50 = .ok (.iconst 0, 1) := by decide +kernel
theorem dX6_chargeOf_51 : decode cX6_chargeOf 51 = .ok (.istore 10, 2) := by decide +kernel
theorem dX6_chargeOf_53 : decode cX6_chargeOf 53 = .ok (.iload 10, 2) := by decide +kernel
theorem dX6_chargeOf_55 : decode cX6_chargeOf 55 = .ok (.aload_n 0, 1) := by decide +kernel
theorem dX6_chargeOf_56 : decode cX6_chargeOf 56 = .ok (.getfield 12, 3) := by decide +kernel
theorem dX6_chargeOf_59 : decode cX6_chargeOf 59 = .ok (.getfield 77, 3) := by decide +kernel
theorem dX6_chargeOf_62 : decode cX6_chargeOf 62 = .ok (.if_icmp .ge 65, 3) := by decide +kernel
theorem dX6_chargeOf_65 : decode cX6_chargeOf 65 = .ok (.aload_n 0, 1) := by decide +kernel
theorem dX6_chargeOf_66 : decode cX6_chargeOf 66 = .ok (.getfield 42, 3) := by decide +kernel
theorem dX6_chargeOf_69 : decode cX6_chargeOf 69 = .ok (.iload 10, 2) := by decide +kernel
theorem dX6_chargeOf_71 : decode cX6_chargeOf 71 = .ok (.iload_n 1, 1) := by decide +kernel
theorem dX6_chargeOf_72 : decode cX6_chargeOf 72 = .ok (.iload_n 1, 1) := by decide +kernel
theorem dX6_chargeOf_73 : decode cX6_chargeOf 73 = .ok (.iconst 1, 1) := by decide +kernel
theorem dX6_chargeOf_74 : decode cX6_chargeOf 74 = .ok (.iadd, 1) := by decide +kernel
theorem dX6_chargeOf_75 : decode cX6_chargeOf 75 = .ok (.invokevirtual 123, 3) := by decide +kernel
theorem dX6_chargeOf_78 : decode cX6_chargeOf 78 = .ok (.i2l, 1) := by decide +kernel
theorem dX6_chargeOf_79 : decode cX6_chargeOf 79 = .ok (.lstore 11, 2) := by decide +kernel
theorem dX6_chargeOf_81 : decode cX6_chargeOf 81 = .ok (.lload 11, 2) := by decide +kernel
theorem dX6_chargeOf_83 : decode cX6_chargeOf 83 = .ok (.lconst 0, 1) := by decide +kernel
theorem dX6_chargeOf_84 : decode cX6_chargeOf 84 = .ok (.lcmp, 1) := by decide +kernel
theorem dX6_chargeOf_85 : decode cX6_chargeOf 85 = .ok (.ifCond .le 36, 3) := by decide +kernel
theorem dX6_chargeOf_88 : decode cX6_chargeOf 88 = .ok (.aload_n 0, 1) := by decide +kernel
theorem dX6_chargeOf_89 : decode cX6_chargeOf 89 = .ok (.getfield 35, 3) := by decide +kernel
theorem dX6_chargeOf_92 : decode cX6_chargeOf 92 = .ok (.iload 10, 2) := by decide +kernel
theorem dX6_chargeOf_94 : decode cX6_chargeOf 94 = .ok (.iload 7, 2) := by decide +kernel
theorem dX6_chargeOf_96 : decode cX6_chargeOf 96 = .ok (.aload_n 0, 1) := by decide +kernel
theorem dX6_chargeOf_97 : decode cX6_chargeOf 97 = .ok (.getfield 12, 3) := by decide +kernel
theorem dX6_chargeOf_100 : decode cX6_chargeOf 100 = .ok (.invokevirtual 127, 3) := by decide +kernel
theorem dX6_chargeOf_103 : decode cX6_chargeOf 103 = .ok (.i2l, 1) := by decide +kernel
theorem dX6_chargeOf_104 : decode cX6_chargeOf 104 = .ok (.lstore 13, 2) := by decide +kernel
theorem dX6_chargeOf_106 : decode cX6_chargeOf 106 = .ok (.lload 8, 2) := by decide +kernel
theorem dX6_chargeOf_108 : decode cX6_chargeOf 108 = .ok (.lload 11, 2) := by decide +kernel
theorem dX6_chargeOf_110 : decode cX6_chargeOf 110 = .ok (.lload 13, 2) := by decide +kernel
theorem dX6_chargeOf_112 : decode cX6_chargeOf 112 = .ok (.lmul, 1) := by decide +kernel
theorem dX6_chargeOf_113 : decode cX6_chargeOf 113 = .ok (.lload_n 3, 1) := by decide +kernel
theorem dX6_chargeOf_114 : decode cX6_chargeOf 114 = .ok (.lmul, 1) := by decide +kernel
theorem dX6_chargeOf_115 : decode cX6_chargeOf 115 = .ok (.lload 5, 2) := by decide +kernel
theorem dX6_chargeOf_117 : decode cX6_chargeOf 117 = .ok (.ldiv, 1) := by decide +kernel
theorem dX6_chargeOf_118 : decode cX6_chargeOf 118 = .ok (.ladd, 1) := by decide +kernel
theorem dX6_chargeOf_119 : decode cX6_chargeOf 119 = .ok (.lstore 8, 2) := by decide +kernel
theorem dX6_chargeOf_121 : decode cX6_chargeOf 121 = .ok (.iinc 10 1, 3) := by decide +kernel
theorem dX6_chargeOf_124 : decode cX6_chargeOf 124 = .ok (.goto (-71), 3) := by decide +kernel
theorem dX6_chargeOf_127 : decode cX6_chargeOf 127 = .ok (.lload 8, 2) := by decide +kernel
theorem dX6_chargeOf_129 : decode cX6_chargeOf 129 = .ok (.lreturn, 1) := by decide +kernel
theorem dX6_withInterest_0 : decode cX6_withInterest 0 = .ok (.lload_n 1, 1) := by decide +kernel
theorem dX6_withInterest_1 : decode cX6_withInterest 1 = .ok (.lconst 0, 1) := by decide +kernel
theorem dX6_withInterest_2 : decode cX6_withInterest 2 = .ok (.lcmp, 1) := by decide +kernel
theorem dX6_withInterest_3 : decode cX6_withInterest 3 = .ok (.ifCond .le 24, 3) := by decide +kernel
theorem dX6_withInterest_6 : decode cX6_withInterest 6 = .ok (.lload_n 1, 1) := by decide +kernel
theorem dX6_withInterest_7 : decode cX6_withInterest 7 = .ok (.lload_n 1, 1) := by decide +kernel
theorem dX6_withInterest_8 : decode cX6_withInterest 8 = .ok (.aload_n 0, 1) := by decide +kernel
theorem dX6_withInterest_9 : decode cX6_withInterest 9 = .ok (.getfield 12, 3) := by decide +kernel
theorem dX6_withInterest_12 : decode cX6_withInterest 12 = .ok (.getfield 84, 3) := by decide +kernel
theorem dX6_withInterest_15 : decode cX6_withInterest 15 = .ok (.iconst 5, 1) := by decide +kernel
theorem dX6_withInterest_16 : decode cX6_withInterest 16 = .ok (.iaload, 1) := by decide +kernel
theorem dX6_withInterest_17 : decode cX6_withInterest 17 = .ok (.i2l, 1) := by decide +kernel
theorem dX6_withInterest_18 : decode cX6_withInterest 18 = .ok (.lmul, 1) := by decide +kernel
theorem dX6_withInterest_19 : decode cX6_withInterest 19 = .ok (.ldc2_w 131, 3) := by decide +kernel
theorem dX6_withInterest_22 : decode cX6_withInterest 22 = .ok (.ldiv, 1) := by decide +kernel
theorem dX6_withInterest_23 : decode cX6_withInterest 23 = .ok (.ladd, 1) := by decide +kernel
theorem dX6_withInterest_24 : decode cX6_withInterest 24 = .ok (.goto 4, 3) := by decide +kernel
theorem dX6_withInterest_27 : decode cX6_withInterest 27 = .ok (.lload_n 1, 1) := by decide +kernel
theorem dX6_withInterest_28 : decode cX6_withInterest 28 = .ok (.lreturn, 1) := by decide +kernel
theorem dX6_bookMonth_0 : decode cX6_bookMonth 0 = .ok (.aload_n 0, 1) := by decide +kernel
theorem dX6_bookMonth_1 : decode cX6_bookMonth 1 = .ok (.aload_n 0, 1) := by decide +kernel
theorem dX6_bookMonth_2 : decode cX6_bookMonth 2 = .ok (.getfield 35, 3) := by decide +kernel
theorem dX6_bookMonth_5 : decode cX6_bookMonth 5 = .ok (.getfield 133, 3) := by decide +kernel
theorem dX6_bookMonth_8 : decode cX6_bookMonth 8 = .ok (.invokevirtual 136, 3) := by decide +kernel
theorem dX6_bookMonth_11 : decode cX6_bookMonth 11 = .ok (.lstore_n 1, 1) := by decide +kernel
theorem dX6_bookMonth_12 : decode cX6_bookMonth 12 = .ok (.aload_n 0, 1) := by decide +kernel
theorem dX6_bookMonth_13 : decode cX6_bookMonth 13 = .ok (.getfield 35, 3) := by decide +kernel
theorem dX6_bookMonth_16 : decode cX6_bookMonth 16 = .ok (.getfield 139, 3) := by decide +kernel
theorem dX6_bookMonth_19 : decode cX6_bookMonth 19 = .ok (.aload_n 0, 1) := by decide +kernel
theorem dX6_bookMonth_20 : decode cX6_bookMonth 20 = .ok (.getfield 35, 3) := by decide +kernel
theorem dX6_bookMonth_23 : decode cX6_bookMonth 23 = .ok (.getfield 133, 3) := by decide +kernel
theorem dX6_bookMonth_26 : decode cX6_bookMonth 26 = .ok (.lload_n 1, 1) := by decide +kernel
theorem dX6_bookMonth_27 : decode cX6_bookMonth 27 = .ok (.lastore, 1) := by decide +kernel
theorem dX6_bookMonth_28 : decode cX6_bookMonth 28 = .ok (.aload_n 0, 1) := by decide +kernel
theorem dX6_bookMonth_29 : decode cX6_bookMonth 29 = .ok (.getfield 35, 3) := by decide +kernel
theorem dX6_bookMonth_32 : decode cX6_bookMonth 32 = .ok (.aload_n 0, 1) := by decide +kernel
theorem dX6_bookMonth_33 : decode cX6_bookMonth 33 = .ok (.aload_n 0, 1) := by decide +kernel
theorem dX6_bookMonth_34 : decode cX6_bookMonth 34 = .ok (.getfield 35, 3) := by decide +kernel
theorem dX6_bookMonth_37 : decode cX6_bookMonth 37 = .ok (.getfield 143, 3) := by decide +kernel
theorem dX6_bookMonth_40 : decode cX6_bookMonth 40 = .ok (.invokevirtual 147, 3) := by decide +kernel
theorem dX6_bookMonth_43 : decode cX6_bookMonth 43 = .ok (.lload_n 1, 1) := by decide +kernel
theorem dX6_bookMonth_44 : decode cX6_bookMonth 44 = .ok (.ladd, 1) := by decide +kernel
theorem dX6_bookMonth_45 : decode cX6_bookMonth 45 = .ok (.putfield 143, 3) := by decide +kernel
theorem dX6_bookMonth_48 : decode cX6_bookMonth 48 = .ok (.return_, 1) := by decide +kernel
theorem dX6_unbooked_0 : decode cX6_unbooked 0 = .ok (.aload_n 0, 1) := by decide +kernel
theorem dX6_unbooked_1 : decode cX6_unbooked 1 = .ok (.getfield 46, 3) := by decide +kernel
theorem dX6_unbooked_4 : decode cX6_unbooked 4 = .ok (.iconst 4, 1) := by decide +kernel
theorem dX6_unbooked_5 : decode cX6_unbooked 5 = .ok (.if_icmp .ne 15, 3) := by decide +kernel
theorem dX6_unbooked_8 : decode cX6_unbooked 8 = .ok (.aload_n 0, 1) := by decide +kernel
theorem dX6_unbooked_9 : decode cX6_unbooked 9 = .ok (.getfield 35, 3) := by decide +kernel
theorem dX6_unbooked_12 : decode cX6_unbooked 12 = .ok (.getfield 133, 3) := by decide +kernel
theorem dX6_unbooked_15 : decode cX6_unbooked 15 = .ok (.iconst 1, 1) := by decide +kernel
theorem dX6_unbooked_16 : decode cX6_unbooked 16 = .ok (.iadd, 1) := by decide +kernel
theorem dX6_unbooked_17 : decode cX6_unbooked 17 = .ok (.goto 10, 3) := by decide +kernel
theorem dX6_unbooked_20 : decode cX6_unbooked 20 = .ok (.aload_n 0, 1) := by decide +kernel
theorem dX6_unbooked_21 : decode cX6_unbooked 21 = .ok (.getfield 35, 3) := by decide +kernel
theorem dX6_unbooked_24 : decode cX6_unbooked 24 = .ok (.getfield 133, 3) := by decide +kernel
theorem dX6_unbooked_27 : decode cX6_unbooked 27 = .ok (.istore_n 1, 1) := by decide +kernel
theorem dX6_unbooked_28 : decode cX6_unbooked 28 = .ok (.lconst 0, 1) := by decide +kernel
theorem dX6_unbooked_29 : decode cX6_unbooked 29 = .ok (.lstore_n 2, 1) := by decide +kernel
theorem dX6_unbooked_30 : decode cX6_unbooked 30 = .ok (.iconst 0, 1) := by decide +kernel
theorem dX6_unbooked_31 : decode cX6_unbooked 31 = .ok (.istore 4, 2) := by decide +kernel
theorem dX6_unbooked_33 : decode cX6_unbooked 33 = .ok (.iload 4, 2) := by decide +kernel
theorem dX6_unbooked_35 : decode cX6_unbooked 35 = .ok (.iload_n 1, 1) := by decide +kernel
theorem dX6_unbooked_36 : decode cX6_unbooked 36 = .ok (.if_icmp .ge 29, 3) := by decide +kernel
theorem dX6_unbooked_39 : decode cX6_unbooked 39 = .ok (.lload_n 2, 1) := by decide +kernel
theorem dX6_unbooked_40 : decode cX6_unbooked 40 = .ok (.aload_n 0, 1) := by decide +kernel
theorem dX6_unbooked_41 : decode cX6_unbooked 41 = .ok (.iload 4, 2) := by decide +kernel
theorem dX6_unbooked_43 : decode cX6_unbooked 43 = .ok (.invokevirtual 136, 3) := by decide +kernel
theorem dX6_unbooked_46 : decode cX6_unbooked 46 = .ok (.aload_n 0, 1) := by decide +kernel
theorem dX6_unbooked_47 : decode cX6_unbooked 47 = .ok (.getfield 35, 3) := by decide +kernel
theorem dX6_unbooked_50 : decode cX6_unbooked 50 = .ok (.getfield 139, 3) := by decide +kernel
theorem dX6_unbooked_53 : decode cX6_unbooked 53 = .ok (.iload 4, 2) := by decide +kernel
theorem dX6_unbooked_55 : decode cX6_unbooked 55 = .ok (.laload, 1) := by decide +kernel
theorem dX6_unbooked_56 : decode cX6_unbooked 56 = .ok (.lsub, 1) := by decide +kernel
theorem dX6_unbooked_57 : decode cX6_unbooked 57 = .ok (.ladd, 1) := by decide +kernel
theorem dX6_unbooked_58 : decode cX6_unbooked 58 = .ok (.lstore_n 2, 1) := by decide +kernel
theorem dX6_unbooked_59 : decode cX6_unbooked 59 = .ok (.iinc 4 1, 3) := by decide +kernel
theorem dX6_unbooked_62 : decode cX6_unbooked 62 = .ok (.goto (-29), 3) := by decide +kernel
theorem dX6_unbooked_65 : decode cX6_unbooked 65 = .ok (.lload_n 2, 1) := by decide +kernel
theorem dX6_unbooked_66 : decode cX6_unbooked 66 = .ok (.lreturn, 1) := by decide +kernel
theorem dX6_closeContract_0 : decode cX6_closeContract 0 = .ok (.aload_n 0, 1) := by decide +kernel
theorem dX6_closeContract_1 : decode cX6_closeContract 1 = .ok (.invokevirtual 151, 3) := by decide +kernel
theorem dX6_closeContract_4 : decode cX6_closeContract 4 = .ok (.aload_n 0, 1) := by decide +kernel
theorem dX6_closeContract_5 : decode cX6_closeContract 5 = .ok (.iconst 4, 1) := by decide +kernel
theorem dX6_closeContract_6 : decode cX6_closeContract 6 = .ok (.putfield 46, 3) := by decide +kernel
theorem dX6_closeContract_9 : decode cX6_closeContract 9 = .ok (.aload_n 0, 1) := by decide +kernel
theorem dX6_closeContract_10 : decode cX6_closeContract 10 = .ok (.invokevirtual 154, 3) := by decide +kernel
theorem dX6_closeContract_13 : decode cX6_closeContract 13 = .ok (.lstore_n 1, 1) := by decide +kernel
theorem dX6_closeContract_14 : decode cX6_closeContract 14 = .ok (.aload_n 0, 1) := by decide +kernel
theorem dX6_closeContract_15 : decode cX6_closeContract 15 = .ok (.getfield 35, 3) := by decide +kernel
theorem dX6_closeContract_18 : decode cX6_closeContract 18 = .ok (.getfield 139, 3) := by decide +kernel
theorem dX6_closeContract_21 : decode cX6_closeContract 21 = .ok (.aload_n 0, 1) := by decide +kernel
theorem dX6_closeContract_22 : decode cX6_closeContract 22 = .ok (.getfield 35, 3) := by decide +kernel
theorem dX6_closeContract_25 : decode cX6_closeContract 25 = .ok (.getfield 133, 3) := by decide +kernel
theorem dX6_closeContract_28 : decode cX6_closeContract 28 = .ok (.dup2, 1) := by decide +kernel
theorem dX6_closeContract_29 : decode cX6_closeContract 29 = .ok (.laload, 1) := by decide +kernel
theorem dX6_closeContract_30 : decode cX6_closeContract 30 = .ok (.lload_n 1, 1) := by decide +kernel
theorem dX6_closeContract_31 : decode cX6_closeContract 31 = .ok (.ladd, 1) := by decide +kernel
theorem dX6_closeContract_32 : decode cX6_closeContract 32 = .ok (.lastore, 1) := by decide +kernel
theorem dX6_closeContract_33 : decode cX6_closeContract 33 = .ok (.aload_n 0, 1) := by decide +kernel
theorem dX6_closeContract_34 : decode cX6_closeContract 34 = .ok (.getfield 35, 3) := by decide +kernel
theorem dX6_closeContract_37 : decode cX6_closeContract 37 = .ok (.dup, 1) := by decide +kernel
theorem dX6_closeContract_38 : decode cX6_closeContract 38 = .ok (.getfield 143, 3) := by decide +kernel
theorem dX6_closeContract_41 : decode cX6_closeContract 41 = .ok (.lload_n 1, 1) := by decide +kernel
theorem dX6_closeContract_42 : decode cX6_closeContract 42 = .ok (.aload_n 0, 1) := by decide +kernel
theorem dX6_closeContract_43 : decode cX6_closeContract 43 = .ok (.getfield 35, 3) := by decide +kernel
theorem dX6_closeContract_46 : decode cX6_closeContract 46 = .ok (.getfield 111, 3) := by decide +kernel
theorem dX6_closeContract_49 : decode cX6_closeContract 49 = .ok (.i2l, 1) := by decide +kernel
theorem dX6_closeContract_50 : decode cX6_closeContract 50 = .ok (.lsub, 1) := by decide +kernel
theorem dX6_closeContract_51 : decode cX6_closeContract 51 = .ok (.ladd, 1) := by decide +kernel
theorem dX6_closeContract_52 : decode cX6_closeContract 52 = .ok (.putfield 143, 3) := by decide +kernel
theorem dX6_closeContract_55 : decode cX6_closeContract 55 = .ok (.return_, 1) := by decide +kernel
theorem dX6_remainingOf_0 : decode cX6_remainingOf 0 = .ok (.aload_n 0, 1) := by decide +kernel
theorem dX6_remainingOf_1 : decode cX6_remainingOf 1 = .ok (.getfield 35, 3) := by decide +kernel
theorem dX6_remainingOf_4 : decode cX6_remainingOf 4 = .ok (.getfield 101, 3) := by decide +kernel
theorem dX6_remainingOf_7 : decode cX6_remainingOf 7 = .ok (.iload_n 1, 1) := by decide +kernel
theorem dX6_remainingOf_8 : decode cX6_remainingOf 8 = .ok (.iaload, 1) := by decide +kernel
theorem dX6_remainingOf_9 : decode cX6_remainingOf 9 = .ok (.bipush 10, 2) := by decide +kernel
theorem dX6_remainingOf_11 : decode cX6_remainingOf 11 = .ok (.imul, 1) := by decide +kernel
theorem dX6_remainingOf_12 : decode cX6_remainingOf 12 = .ok (.aload_n 0, 1) := by decide +kernel
theorem dX6_remainingOf_13 : decode cX6_remainingOf 13 = .ok (.getfield 42, 3) := by decide +kernel
theorem dX6_remainingOf_16 : decode cX6_remainingOf 16 = .ok (.iload_n 1, 1) := by decide +kernel
theorem dX6_remainingOf_17 : decode cX6_remainingOf 17 = .ok (.iconst 0, 1) := by decide +kernel
theorem dX6_remainingOf_18 : decode cX6_remainingOf 18 = .ok (.bipush 36, 2) := by decide +kernel
theorem dX6_remainingOf_20 : decode cX6_remainingOf 20 = .ok (.invokevirtual 123, 3) := by decide +kernel
theorem dX6_remainingOf_23 : decode cX6_remainingOf 23 = .ok (.isub, 1) := by decide +kernel
theorem dX6_remainingOf_24 : decode cX6_remainingOf 24 = .ok (.istore_n 2, 1) := by decide +kernel
theorem dX6_remainingOf_25 : decode cX6_remainingOf 25 = .ok (.iload_n 2, 1) := by decide +kernel
theorem dX6_remainingOf_26 : decode cX6_remainingOf 26 = .ok (.ifCond .le 10, 3) := by decide +kernel
theorem dX6_remainingOf_29 : decode cX6_remainingOf 29 = .ok (.iload_n 2, 1) := by decide +kernel
theorem dX6_remainingOf_30 : decode cX6_remainingOf 30 = .ok (.bipush 10, 2) := by decide +kernel
theorem dX6_remainingOf_32 : decode cX6_remainingOf 32 = .ok (.idiv, 1) := by decide +kernel
theorem dX6_remainingOf_33 : decode cX6_remainingOf 33 = .ok (.goto 4, 3) := by decide +kernel
theorem dX6_remainingOf_36 : decode cX6_remainingOf 36 = .ok (.iconst 0, 1) := by decide +kernel
theorem dX6_remainingOf_37 : decode cX6_remainingOf 37 = .ok (.ireturn, 1) := by decide +kernel
theorem dX6_remainingSum_0 : decode cX6_remainingSum 0 = .ok (.iconst 0, 1) := by decide +kernel
theorem dX6_remainingSum_1 : decode cX6_remainingSum 1 = .ok (.istore_n 1, 1) := by decide +kernel
theorem dX6_remainingSum_2 : decode cX6_remainingSum 2 = .ok (.iconst 0, 1) := by decide +kernel
theorem dX6_remainingSum_3 : decode cX6_remainingSum 3 = .ok (.istore_n 2, 1) := by decide +kernel
theorem dX6_remainingSum_4 : decode cX6_remainingSum 4 = .ok (.iload_n 2, 1) := by decide +kernel
theorem dX6_remainingSum_5 : decode cX6_remainingSum 5 = .ok (.aload_n 0, 1) := by decide +kernel
theorem dX6_remainingSum_6 : decode cX6_remainingSum 6 = .ok (.getfield 12, 3) := by decide +kernel
theorem dX6_remainingSum_9 : decode cX6_remainingSum 9 = .ok (.getfield 77, 3) := by decide +kernel
theorem dX6_remainingSum_12 : decode cX6_remainingSum 12 = .ok (.if_icmp .ge 17, 3) := by decide +kernel
theorem dX6_remainingSum_15 : decode cX6_remainingSum 15 = .ok (.iload_n 1, 1) := by decide +kernel
theorem dX6_remainingSum_16 : decode cX6_remainingSum 16 = .ok (.aload_n 0, 1) := by decide +kernel
theorem dX6_remainingSum_17 : decode cX6_remainingSum 17 = .ok (.iload_n 2, 1) := by decide +kernel
theorem dX6_remainingSum_18 : decode cX6_remainingSum 18 = .ok (.invokevirtual 91, 3) := by decide +kernel
theorem dX6_remainingSum_21 : decode cX6_remainingSum 21 = .ok (.iadd, 1) := by decide +kernel
theorem dX6_remainingSum_22 : decode cX6_remainingSum 22 = .ok (.istore_n 1, 1) := by decide +kernel
theorem dX6_remainingSum_23 : decode cX6_remainingSum 23 = .ok (.iinc 2 1, 3) := by decide +kernel
theorem dX6_remainingSum_26 : decode cX6_remainingSum 26 = .ok (.goto (-22), 3) := by decide +kernel
theorem dX6_remainingSum_29 : decode cX6_remainingSum 29 = .ok (.iload_n 1, 1) := by decide +kernel
theorem dX6_remainingSum_30 : decode cX6_remainingSum 30 = .ok (.ireturn, 1) := by decide +kernel
theorem dX6_isInDefault_0 : decode cX6_isInDefault 0 = .ok (.aload_n 0, 1) := by decide +kernel
theorem dX6_isInDefault_1 : decode cX6_isInDefault 1 = .ok (.getfield 35, 3) := by decide +kernel
theorem dX6_isInDefault_4 : decode cX6_isInDefault 4 = .ok (.getfield 143, 3) := by decide +kernel
theorem dX6_isInDefault_7 : decode cX6_isInDefault 7 = .ok (.aload_n 0, 1) := by decide +kernel
theorem dX6_isInDefault_8 : decode cX6_isInDefault 8 = .ok (.getfield 35, 3) := by decide +kernel
theorem dX6_isInDefault_11 : decode cX6_isInDefault 11 = .ok (.getfield 111, 3) := by decide +kernel
theorem dX6_isInDefault_14 : decode cX6_isInDefault 14 = .ok (.i2l, 1) := by decide +kernel
theorem dX6_isInDefault_15 : decode cX6_isInDefault 15 = .ok (.lcmp, 1) := by decide +kernel
theorem dX6_isInDefault_16 : decode cX6_isInDefault 16 = .ok (.ifCond .gt 29, 3) := by decide +kernel
theorem dX6_isInDefault_19 : decode cX6_isInDefault 19 = .ok (.aload_n 0, 1) := by decide +kernel
theorem dX6_isInDefault_20 : decode cX6_isInDefault 20 = .ok (.getfield 35, 3) := by decide +kernel
theorem dX6_isInDefault_23 : decode cX6_isInDefault 23 = .ok (.getfield 133, 3) := by decide +kernel
theorem dX6_isInDefault_26 : decode cX6_isInDefault 26 = .ok (.aload_n 0, 1) := by decide +kernel
theorem dX6_isInDefault_27 : decode cX6_isInDefault 27 = .ok (.getfield 12, 3) := by decide +kernel
theorem dX6_isInDefault_30 : decode cX6_isInDefault 30 = .ok (.getfield 84, 3) := by decide +kernel
theorem dX6_isInDefault_33 : decode cX6_isInDefault 33 = .ok (.iconst 1, 1) := by decide +kernel
theorem dX6_isInDefault_34 : decode cX6_isInDefault 34 = .ok (.iaload, 1) := by decide +kernel
theorem dX6_isInDefault_35 : decode cX6_isInDefault 35 = .ok (.if_icmp .lt 14, 3) := by decide +kernel
theorem dX6_isInDefault_38 : decode cX6_isInDefault 38 = .ok (.aload_n 0, 1) := by decide +kernel
theorem dX6_isInDefault_39 : decode cX6_isInDefault 39 = .ok (.invokevirtual 158, 3) := by decide +kernel
theorem dX6_isInDefault_42 : decode cX6_isInDefault 42 = .ok (.ifCond .le 7, 3) := by decide +kernel
theorem dX6_isInDefault_45 : decode cX6_isInDefault 45 = .ok (.iconst 1, 1) := by decide +kernel
theorem dX6_isInDefault_46 : decode cX6_isInDefault 46 = .ok (.goto 4, 3) := by decide +kernel
theorem dX6_isInDefault_49 : decode cX6_isInDefault 49 = .ok (.iconst 0, 1) := by decide +kernel
theorem dX6_isInDefault_50 : decode cX6_isInDefault 50 = .ok (.ireturn, 1) := by decide +kernel
theorem dX6_lossByResale_0 : decode cX6_lossByResale 0 = .ok (.aload_n 0, 1) := by decide +kernel
theorem dX6_lossByResale_1 : decode cX6_lossByResale 1 = .ok (.getfield 28, 3) := by decide +kernel
theorem dX6_lossByResale_4 : decode cX6_lossByResale 4 = .ok (.aload_n 0, 1) := by decide +kernel
theorem dX6_lossByResale_5 : decode cX6_lossByResale 5 = .ok (.getfield 12, 3) := by decide +kernel
theorem dX6_lossByResale_8 : decode cX6_lossByResale 8 = .ok (.invokevirtual 162, 3) := by decide +kernel
theorem dX6_lossByResale_11 : decode cX6_lossByResale 11 = .ok (.istore_n 1, 1) := by decide +kernel
theorem dX6_lossByResale_12 : decode cX6_lossByResale 12 = .ok (.iload_n 1, 1) := by decide +kernel
theorem dX6_lossByResale_13 : decode cX6_lossByResale 13 = .ok (.iconst (-1), 1) := by decide +kernel
theorem dX6_lossByResale_14 : decode cX6_lossByResale 14 = .ok (.if_icmp .ne 5, 3) := by decide +kernel
theorem dX6_lossByResale_17 : decode cX6_lossByResale 17 = .ok (.lconst 0, 1) := by decide +kernel
theorem dX6_lossByResale_18 : decode cX6_lossByResale 18 = .ok (.lreturn, 1) := by decide +kernel
theorem dX6_lossByResale_19 : decode cX6_lossByResale 19 = .ok (.aload_n 0, 1) := by decide +kernel
theorem dX6_lossByResale_20 : decode cX6_lossByResale 20 = .ok (.getfield 35, 3) := by decide +kernel
theorem dX6_lossByResale_23 : decode cX6_lossByResale 23 = .ok (.getfield 133, 3) := by decide +kernel
theorem dX6_lossByResale_26 : decode cX6_lossByResale 26 = .ok (.iconst 3, 1) := by decide +kernel
theorem dX6_lossByResale_27 : decode cX6_lossByResale 27 = .ok (.idiv, 1) := by decide +kernel
theorem dX6_lossByResale_28 : decode cX6_lossByResale 28 = .ok (.istore_n 2, 1) := by decide +kernel
theorem dX6_lossByResale_29 : decode cX6_lossByResale 29 = .ok (.lconst 0, 1) := by decide +kernel
theorem dX6_lossByResale_30 : decode cX6_lossByResale 30 = .ok (.lstore_n 3, 1) := by decide +kernel
theorem dX6_lossByResale_31 : decode cX6_lossByResale 31 = .ok (.iconst 0, 1) := by decide +kernel
theorem dX6_lossByResale_32 : decode cX6_lossByResale 32 = .ok (.istore 5, 2) := by decide +kernel
theorem dX6_lossByResale_34 : decode cX6_lossByResale 34 = .ok (.iload 5, 2) := by decide +kernel
theorem dX6_lossByResale_36 : decode cX6_lossByResale 36 = .ok (.aload_n 0, 1) := by decide +kernel
theorem dX6_lossByResale_37 : decode cX6_lossByResale 37 = .ok (.getfield 12, 3) := by decide +kernel
theorem dX6_lossByResale_40 : decode cX6_lossByResale 40 = .ok (.getfield 77, 3) := by decide +kernel
theorem dX6_lossByResale_43 : decode cX6_lossByResale 43 = .ok (.if_icmp .ge 39, 3) := by decide +kernel
theorem dX6_lossByResale_46 : decode cX6_lossByResale 46 = .ok (.aload_n 0, 1) := by decide +kernel
theorem dX6_lossByResale_47 : decode cX6_lossByResale 47 = .ok (.getfield 35, 3) := by decide +kernel
theorem dX6_lossByResale_50 : decode cX6_lossByResale 50 = .ok (.iload 5, 2) := by decide +kernel
theorem dX6_lossByResale_52 : decode cX6_lossByResale 52 = .ok (.iload_n 2, 1) := by decide +kernel
theorem dX6_lossByResale_53 : decode cX6_lossByResale 53 = .ok (.aload_n 0, 1) := by decide +kernel
theorem dX6_lossByResale_54 : decode cX6_lossByResale 54 = .ok (.getfield 12, 3) := by decide +kernel
theorem dX6_lossByResale_57 : decode cX6_lossByResale 57 = .ok (.invokevirtual 127, 3) := by decide +kernel
theorem dX6_lossByResale_60 : decode cX6_lossByResale 60 = .ok (.i2l, 1) := by decide +kernel
theorem dX6_lossByResale_61 : decode cX6_lossByResale 61 = .ok (.lstore 6, 2) := by decide +kernel
theorem dX6_lossByResale_63 : decode cX6_lossByResale 63 = .ok (.lload_n 3, 1) := by decide +kernel
theorem dX6_lossByResale_64 : decode cX6_lossByResale 64 = .ok (.lload 6, 2) := by decide +kernel
theorem dX6_lossByResale_66 : decode cX6_lossByResale 66 = .ok (.aload_n 0, 1) := by decide +kernel
theorem dX6_lossByResale_67 : decode cX6_lossByResale 67 = .ok (.iload 5, 2) := by decide +kernel
theorem dX6_lossByResale_69 : decode cX6_lossByResale 69 = .ok (.invokevirtual 91, 3) := by decide +kernel
theorem dX6_lossByResale_72 : decode cX6_lossByResale 72 = .ok (.i2l, 1) := by decide +kernel
theorem dX6_lossByResale_73 : decode cX6_lossByResale 73 = .ok (.lmul, 1) := by decide +kernel
theorem dX6_lossByResale_74 : decode cX6_lossByResale 74 = .ok (.ladd, 1) := by decide +kernel
theorem dX6_lossByResale_75 : decode cX6_lossByResale 75 = .ok (.lstore_n 3, 1) := by decide +kernel
theorem dX6_lossByResale_76 : decode cX6_lossByResale 76 = .ok (.iinc 5 1, 3) := by decide +kernel
theorem dX6_lossByResale_79 : decode cX6_lossByResale 79 = .ok (.goto (-45), 3) := by decide +kernel
theorem dX6_lossByResale_82 : decode cX6_lossByResale 82 = .ok (.lload_n 3, 1) := by decide +kernel
theorem dX6_lossByResale_83 : decode cX6_lossByResale 83 = .ok (.aload_n 0, 1) := by decide +kernel
theorem dX6_lossByResale_84 : decode cX6_lossByResale 84 = .ok (.getfield 28, 3) := by decide +kernel
theorem dX6_lossByResale_87 : decode cX6_lossByResale 87 = .ok (.iload_n 1, 1) := by decide +kernel
theorem dX6_lossByResale_88 : decode cX6_lossByResale 88 = .ok (.invokevirtual 166, 3) := by decide +kernel
theorem dX6_lossByResale_91 : decode cX6_lossByResale 91 = .ok (.lsub, 1) := by decide +kernel
theorem dX6_lossByResale_92 : decode cX6_lossByResale 92 = .ok (.aload_n 0, 1) := by decide +kernel
theorem dX6_lossByResale_93 : decode cX6_lossByResale 93 = .ok (.getfield 12, 3) := by decide +kernel
theorem dX6_lossByResale_96 : decode cX6_lossByResale 96 = .ok (.getfield 84, 3) := by decide +kernel
theorem dX6_lossByResale_99 : decode cX6_lossByResale 99 = .ok (.bipush 6, 2) := by decide +kernel
theorem dX6_lossByResale_101 : decode cX6_lossByResale 101 = .ok (.iaload, 1) := by decide +kernel
theorem dX6_lossByResale_102 : decode cX6_lossByResale 102 = .ok (.i2l, 1) := by decide +kernel
theorem dX6_lossByResale_103 : decode cX6_lossByResale 103 = .ok (.ladd, 1) := by decide +kernel
theorem dX6_lossByResale_104 : decode cX6_lossByResale 104 = .ok (.aload_n 0, 1) := by decide +kernel
theorem dX6_lossByResale_105 : decode cX6_lossByResale 105 = .ok (.getfield 35, 3) := by decide +kernel
theorem dX6_lossByResale_108 : decode cX6_lossByResale 108 = .ok (.getfield 143, 3) := by decide +kernel
theorem dX6_lossByResale_111 : decode cX6_lossByResale 111 = .ok (.ladd, 1) := by decide +kernel
theorem dX6_lossByResale_112 : decode cX6_lossByResale 112 = .ok (.aload_n 0, 1) := by decide +kernel
theorem dX6_lossByResale_113 : decode cX6_lossByResale 113 = .ok (.getfield 35, 3) := by decide +kernel
theorem dX6_lossByResale_116 : decode cX6_lossByResale 116 = .ok (.getfield 111, 3) := by decide +kernel
theorem dX6_lossByResale_119 : decode cX6_lossByResale 119 = .ok (.i2l, 1) := by decide +kernel
theorem dX6_lossByResale_120 : decode cX6_lossByResale 120 = .ok (.lsub, 1) := by decide +kernel
theorem dX6_lossByResale_121 : decode cX6_lossByResale 121 = .ok (.lreturn, 1) := by decide +kernel
theorem dX7_init_0 : decode cX7_init 0 = .ok (.aload_n 0, 1) := by decide +kernel
theorem dX7_init_1 : decode cX7_init 1 = .ok (.invokespecial 3, 3) := by decide +kernel
theorem dX7_init_4 : decode cX7_init 4 = .ok (.aload_n 0, 1) := by decide +kernel
theorem dX7_init_5 : decode cX7_init 5 = .ok (.bipush 7, 2) := by decide +kernel
theorem dX7_init_7 : decode cX7_init 7 = .ok (.newarray .int, 2) := by decide +kernel
theorem dX7_init_9 : decode cX7_init 9 = .ok (.putfield 9, 3) := by decide +kernel
theorem dX7_init_12 : decode cX7_init 12 = .ok (.aload_n 0, 1) := by decide +kernel
theorem dX7_init_13 : decode cX7_init 13 = .ok (.bipush 6, 2) := by decide +kernel
theorem dX7_init_15 : decode cX7_init 15 = .ok (.newarray .int, 2) := by decide +kernel
theorem dX7_init_17 : decode cX7_init 17 = .ok (.putfield 15, 3) := by decide +kernel
theorem dX7_init_20 : decode cX7_init 20 = .ok (.aload_n 0, 1) := by decide +kernel
theorem dX7_init_21 : decode cX7_init 21 = .ok (.bipush 6, 2) := by decide +kernel
theorem dX7_init_23 : decode cX7_init 23 = .ok (.newarray .int, 2) := by decide +kernel
theorem dX7_init_25 : decode cX7_init 25 = .ok (.putfield 18, 3) := by decide +kernel
theorem dX7_init_28 : decode cX7_init 28 = .ok (.getstatic 21, 3) := by decide +kernel
theorem dX7_init_31 : decode cX7_init 31 = .ok (.aload_n 0, 1) := by decide +kernel
theorem dX7_init_32 : decode cX7_init 32 = .ok (.getfield 9, 3) := by decide +kernel
theorem dX7_init_35 : decode cX7_init 35 = .ok (.invokestatic 24, 3) := by decide +kernel
theorem dX7_init_38 : decode cX7_init 38 = .ok (.return_, 1) := by decide +kernel
theorem dX7_clear_0 : decode cX7_clear 0 = .ok (.aload_n 0, 1) := by decide +kernel
theorem dX7_clear_1 : decode cX7_clear 1 = .ok (.iconst 0, 1) := by decide +kernel
theorem dX7_clear_2 : decode cX7_clear 2 = .ok (.putfield 28, 3) := by decide +kernel
theorem dX7_clear_5 : decode cX7_clear 5 = .ok (.getstatic 21, 3) := by decide +kernel
theorem dX7_clear_8 : decode cX7_clear 8 = .ok (.aload_n 0, 1) := by decide +kernel
theorem dX7_clear_9 : decode cX7_clear 9 = .ok (.getfield 9, 3) := by decide +kernel
theorem dX7_clear_12 : decode cX7_clear 12 = .ok (.invokestatic 24, 3) := by decide +kernel
theorem dX7_clear_15 : decode cX7_clear 15 = .ok (.aload_n 0, 1) := by decide +kernel
theorem dX7_clear_16 : decode cX7_clear 16 = .ok (.getfield 15, 3) := by decide +kernel
theorem dX7_clear_19 : decode cX7_clear 19 = .ok (.iconst 0, 1) := by decide +kernel
theorem dX7_clear_20 : decode cX7_clear 20 = .ok (.invokestatic 32, 3) := by decide +kernel
theorem dX7_clear_23 : decode cX7_clear 23 = .ok (.aload_n 0, 1) := by decide +kernel
theorem dX7_clear_24 : decode cX7_clear 24 = .ok (.getfield 18, 3) := by decide +kernel
theorem dX7_clear_27 : decode cX7_clear 27 = .ok (.iconst 0, 1) := by decide +kernel
theorem dX7_clear_28 : decode cX7_clear 28 = .ok (.invokestatic 32, 3) := by decide +kernel
theorem dX7_clear_31 : decode cX7_clear 31 = .ok (.return_, 1) := by decide +kernel
theorem dX7_copyFrom_0 : decode cX7_copyFrom 0 = .ok (.aload_n 0, 1) := by decide +kernel
theorem dX7_copyFrom_1 : decode cX7_copyFrom 1 = .ok (.aload_n 1, 1) := by decide +kernel
theorem dX7_copyFrom_2 : decode cX7_copyFrom 2 = .ok (.getfield 28, 3) := by decide +kernel
theorem dX7_copyFrom_5 : decode cX7_copyFrom 5 = .ok (.putfield 28, 3) := by decide +kernel
theorem dX7_copyFrom_8 : decode cX7_copyFrom 8 = .ok (.aload_n 1, 1) := by decide +kernel
theorem dX7_copyFrom_9 : decode cX7_copyFrom 9 = .ok (.getfield 9, 3) := by decide +kernel
theorem dX7_copyFrom_12 : decode cX7_copyFrom 12 = .ok (.aload_n 0, 1) := by decide +kernel
theorem dX7_copyFrom_13 : decode cX7_copyFrom 13 = .ok (.getfield 9, 3) := by decide +kernel
theorem dX7_copyFrom_16 : decode cX7_copyFrom 16 = .ok (.invokestatic 24, 3) := by decide +kernel
theorem dX7_copyFrom_19 : decode cX7_copyFrom 19 = .ok (.aload_n 1, 1) := by decide +kernel
theorem dX7_copyFrom_20 : decode cX7_copyFrom 20 = .ok (.getfield 15, 3) := by decide +kernel
theorem dX7_copyFrom_23 : decode cX7_copyFrom 23 = .ok (.aload_n 0, 1) := by decide +kernel
theorem dX7_copyFrom_24 : decode cX7_copyFrom 24 = .ok (.getfield 15, 3) := by decide +kernel
theorem dX7_copyFrom_27 : decode cX7_copyFrom 27 = .ok (.invokestatic 24, 3) := by decide +kernel
theorem dX7_copyFrom_30 : decode cX7_copyFrom 30 = .ok (.aload_n 1, 1) := by decide +kernel
theorem dX7_copyFrom_31 : decode cX7_copyFrom 31 = .ok (.getfield 18, 3) := by decide +kernel
theorem dX7_copyFrom_34 : decode cX7_copyFrom 34 = .ok (.aload_n 0, 1) := by decide +kernel
theorem dX7_copyFrom_35 : decode cX7_copyFrom 35 = .ok (.getfield 18, 3) := by decide +kernel
theorem dX7_copyFrom_38 : decode cX7_copyFrom 38 = .ok (.invokestatic 24, 3) := by decide +kernel
theorem dX7_copyFrom_41 : decode cX7_copyFrom 41 = .ok (.return_, 1) := by decide +kernel
theorem dX8_init_0 : decode cX8_init 0 = .ok (.aload_n 0, 1) := by decide +kernel
theorem dX8_init_1 : decode cX8_init 1 = .ok (.invokespecial 1, 3) := by decide +kernel
theorem dX8_init_4 : decode cX8_init 4 = .ok (.aload_n 0, 1) := by decide +kernel
theorem dX8_init_5 : decode cX8_init 5 = .ok (.new 7, 3) := by decide +kernel
theorem dX8_init_8 : decode cX8_init 8 = .ok (.dup, 1) := by decide +kernel
theorem dX8_init_9 : decode cX8_init 9 = .ok (.invokespecial 9, 3) := by decide +kernel
theorem dX8_init_12 : decode cX8_init 12 = .ok (.putfield 10, 3) := by decide +kernel
theorem dX8_init_15 : decode cX8_init 15 = .ok (.aload_n 0, 1) := by decide +kernel
theorem dX8_init_16 : decode cX8_init 16 = .ok (.new 16, 3) := by decide +kernel
theorem dX8_init_19 : decode cX8_init 19 = .ok (.dup, 1) := by decide +kernel
theorem dX8_init_20 : decode cX8_init 20 = .ok (.invokespecial 18, 3) := by decide +kernel
theorem dX8_init_23 : decode cX8_init 23 = .ok (.putfield 19, 3) := by decide +kernel
theorem dX8_init_26 : decode cX8_init 26 = .ok (.aload_n 0, 1) := by decide +kernel
theorem dX8_init_27 : decode cX8_init 27 = .ok (.new 23, 3) := by decide +kernel
theorem dX8_init_30 : decode cX8_init 30 = .ok (.dup, 1) := by decide +kernel
theorem dX8_init_31 : decode cX8_init 31 = .ok (.invokespecial 25, 3) := by decide +kernel
theorem dX8_init_34 : decode cX8_init 34 = .ok (.putfield 26, 3) := by decide +kernel
theorem dX8_init_37 : decode cX8_init 37 = .ok (.aload_n 0, 1) := by decide +kernel
theorem dX8_init_38 : decode cX8_init 38 = .ok (.new 23, 3) := by decide +kernel
theorem dX8_init_41 : decode cX8_init 41 = .ok (.dup, 1) := by decide +kernel
theorem dX8_init_42 : decode cX8_init 42 = .ok (.invokespecial 25, 3) := by decide +kernel
theorem dX8_init_45 : decode cX8_init 45 = .ok (.putfield 30, 3) := by decide +kernel
theorem dX8_init_48 : decode cX8_init 48 = .ok (.return_, 1) := by decide +kernel
theorem dX8_append_0 : decode cX8_append 0 = .ok (.aload_n 0, 1) := by decide +kernel
theorem dX8_append_1 : decode cX8_append 1 = .ok (.getfield 10, 3) := by decide +kernel
theorem dX8_append_4 : decode cX8_append 4 = .ok (.invokevirtual 33, 3) := by decide +kernel
theorem dX8_append_7 : decode cX8_append 7 = .ok (.invokestatic 37, 3) := by decide +kernel
theorem dX8_append_10 : decode cX8_append 10 = .ok (.aload_n 0, 1) := by decide +kernel
theorem dX8_append_11 : decode cX8_append 11 = .ok (.getfield 10, 3) := by decide +kernel
theorem dX8_append_14 : decode cX8_append 14 = .ok (.iload_n 1, 1) := by decide +kernel
theorem dX8_append_15 : decode cX8_append 15 = .ok (.invokevirtual 41, 3) := by decide +kernel
theorem dX8_append_18 : decode cX8_append 18 = .ok (.aload_n 0, 1) := by decide +kernel
theorem dX8_append_19 : decode cX8_append 19 = .ok (.getfield 10, 3) := by decide +kernel
theorem dX8_append_22 : decode cX8_append 22 = .ok (.iload_n 2, 1) := by decide +kernel
theorem dX8_append_23 : decode cX8_append 23 = .ok (.invokevirtual 41, 3) := by decide +kernel
theorem dX8_append_26 : decode cX8_append 26 = .ok (.aload_n 0, 1) := by decide +kernel
theorem dX8_append_27 : decode cX8_append 27 = .ok (.getfield 10, 3) := by decide +kernel
theorem dX8_append_30 : decode cX8_append 30 = .ok (.iload_n 3, 1) := by decide +kernel
theorem dX8_append_31 : decode cX8_append 31 = .ok (.invokevirtual 41, 3) := by decide +kernel
theorem dX8_append_34 : decode cX8_append 34 = .ok (.aload_n 0, 1) := by decide +kernel
theorem dX8_append_35 : decode cX8_append 35 = .ok (.getfield 10, 3) := by decide +kernel
theorem dX8_append_38 : decode cX8_append 38 = .ok (.iload 4, 2) := by decide +kernel
theorem dX8_append_40 : decode cX8_append 40 = .ok (.invokevirtual 41, 3) := by decide +kernel
theorem dX8_append_43 : decode cX8_append 43 = .ok (.aload_n 0, 1) := by decide +kernel
theorem dX8_append_44 : decode cX8_append 44 = .ok (.getfield 10, 3) := by decide +kernel
theorem dX8_append_47 : decode cX8_append 47 = .ok (.iload 5, 2) := by decide +kernel
theorem dX8_append_49 : decode cX8_append 49 = .ok (.invokevirtual 41, 3) := by decide +kernel
theorem dX8_append_52 : decode cX8_append 52 = .ok (.aload_n 0, 1) := by decide +kernel
theorem dX8_append_53 : decode cX8_append 53 = .ok (.getfield 10, 3) := by decide +kernel
theorem dX8_append_56 : decode cX8_append 56 = .ok (.getfield 45, 3) := by decide +kernel
theorem dX8_append_59 : decode cX8_append 59 = .ok (.ireturn, 1) := by decide +kernel
theorem dX8_load_0 : decode cX8_load 0 = .ok (.iload_n 1, 1) := by decide +kernel
theorem dX8_load_1 : decode cX8_load 1 = .ok (.iconst 0, 1) := by decide +kernel
theorem dX8_load_2 : decode cX8_load 2 = .ok (.aload_n 0, 1) := by decide +kernel
theorem dX8_load_3 : decode cX8_load 3 = .ok (.getfield 10, 3) := by decide +kernel
theorem dX8_load_6 : decode cX8_load 6 = .ok (.getfield 45, 3) := by decide +kernel
theorem dX8_load_9 : decode cX8_load 9 = .ok (.invokestatic 49, 3) := by decide +kernel
theorem dX8_load_12 : decode cX8_load 12 = .ok (.invokestatic 53, 3) := by decide +kernel
theorem dX8_load_15 : decode cX8_load 15 = .ok (.aload_n 0, 1) := by decide +kernel
theorem dX8_load_16 : decode cX8_load 16 = .ok (.getfield 10, 3) := by decide +kernel
theorem dX8_load_19 : decode cX8_load 19 = .ok (.aload_n 0, 1) := by decide +kernel
theorem dX8_load_20 : decode cX8_load 20 = .ok (.getfield 30, 3) := by decide +kernel
theorem dX8_load_23 : decode cX8_load 23 = .ok (.iload_n 1, 1) := by decide +kernel
theorem dX8_load_24 : decode cX8_load 24 = .ok (.invokevirtual 56, 3) := by decide +kernel
theorem dX8_load_27 : decode cX8_load 27 = .ok (.istore_n 2, 1) := by decide +kernel
theorem dX8_load_28 : decode cX8_load 28 = .ok (.iload_n 2, 1) := by decide +kernel
theorem dX8_load_29 : decode cX8_load 29 = .ok (.ifCond .lt 32, 3) := by decide +kernel
theorem dX8_load_32 : decode cX8_load 32 = .ok (.aload_n 0, 1) := by decide +kernel
theorem dX8_load_33 : decode cX8_load 33 = .ok (.getfield 19, 3) := by decide +kernel
theorem dX8_load_36 : decode cX8_load 36 = .ok (.aload_n 0, 1) := by decide +kernel
theorem dX8_load_37 : decode cX8_load 37 = .ok (.getfield 26, 3) := by decide +kernel
theorem dX8_load_40 : decode cX8_load 40 = .ok (.invokevirtual 60, 3) := by decide +kernel
theorem dX8_load_43 : decode cX8_load 43 = .ok (.aload_n 0, 1) := by decide +kernel
theorem dX8_load_44 : decode cX8_load 44 = .ok (.getfield 26, 3) := by decide +kernel
theorem dX8_load_47 : decode cX8_load 47 = .ok (.astore_n 3, 1) := by decide +kernel
theorem dX8_load_48 : decode cX8_load 48 = .ok (.aload_n 0, 1) := by decide +kernel
theorem dX8_load_49 : decode cX8_load 49 = .ok (.aload_n 0, 1) := by decide +kernel
theorem dX8_load_50 : decode cX8_load 50 = .ok (.getfield 30, 3) := by decide +kernel
theorem dX8_load_53 : decode cX8_load 53 = .ok (.putfield 26, 3) := by decide +kernel
theorem dX8_load_56 : decode cX8_load 56 = .ok (.aload_n 0, 1) := by decide +kernel
theorem dX8_load_57 : decode cX8_load 57 = .ok (.aload_n 3, 1) := by decide +kernel
theorem dX8_load_58 : decode cX8_load 58 = .ok (.putfield 30, 3) := by decide +kernel
theorem dX8_load_61 : decode cX8_load 61 = .ok (.iload_n 2, 1) := by decide +kernel
theorem dX8_load_62 : decode cX8_load 62 = .ok (.ireturn, 1) := by decide +kernel
theorem dX8_errorPosition_0 : decode cX8_errorPosition 0 = .ok (.aload_n 0, 1) := by decide +kernel
theorem dX8_errorPosition_1 : decode cX8_errorPosition 1 = .ok (.getfield 10, 3) := by decide +kernel
theorem dX8_errorPosition_4 : decode cX8_errorPosition 4 = .ok (.getfield 64, 3) := by decide +kernel
theorem dX8_errorPosition_7 : decode cX8_errorPosition 7 = .ok (.ireturn, 1) := by decide +kernel
theorem dX8_phase_0 : decode cX8_phase 0 = .ok (.aload_n 0, 1) := by decide +kernel
theorem dX8_phase_1 : decode cX8_phase 1 = .ok (.getfield 26, 3) := by decide +kernel
theorem dX8_phase_4 : decode cX8_phase 4 = .ok (.getfield 67, 3) := by decide +kernel
theorem dX8_phase_7 : decode cX8_phase 7 = .ok (.ireturn, 1) := by decide +kernel
theorem dX8_plotCount_0 : decode cX8_plotCount 0 = .ok (.aload_n 0, 1) := by decide +kernel
theorem dX8_plotCount_1 : decode cX8_plotCount 1 = .ok (.getfield 26, 3) := by decide +kernel
theorem dX8_plotCount_4 : decode cX8_plotCount 4 = .ok (.getfield 70, 3) := by decide +kernel
theorem dX8_plotCount_7 : decode cX8_plotCount 7 = .ok (.getfield 74, 3) := by decide +kernel
theorem dX8_plotCount_10 : decode cX8_plotCount 10 = .ok (.ireturn, 1) := by decide +kernel
theorem dX8_addPlot_0 : decode cX8_addPlot 0 = .ok (.aload_n 0, 1) := by decide +kernel
theorem dX8_addPlot_1 : decode cX8_addPlot 1 = .ok (.iconst 0, 1) := by decide +kernel
theorem dX8_addPlot_2 : decode cX8_addPlot 2 = .ok (.iload_n 1, 1) := by decide +kernel
theorem dX8_addPlot_3 : decode cX8_addPlot 3 = .ok (.invokevirtual 79, 3) := by decide +kernel
theorem dX8_addPlot_6 : decode cX8_addPlot 6 = .ok (.ifCond .eq 55, 3) := by decide +kernel
theorem dX8_addPlot_9 : decode cX8_addPlot 9 = .ok (.aload_n 0, 1) := by decide +kernel
theorem dX8_addPlot_10 : decode cX8_addPlot 10 = .ok (.iconst 1, 1) := by decide +kernel
theorem dX8_addPlot_11 : decode cX8_addPlot 11 = .ok (.iload_n 2, 1) := by decide +kernel
theorem dX8_addPlot_12 : decode cX8_addPlot 12 = .ok (.invokevirtual 79, 3) := by decide +kernel
theorem dX8_addPlot_15 : decode cX8_addPlot 15 = .ok (.ifCond .eq 46, 3) := by decide +kernel
theorem dX8_addPlot_18 : decode cX8_addPlot 18 = .ok (.aload_n 0, 1) := by decide +kernel
theorem dX8_addPlot_19 : decode cX8_addPlot 19 = .ok (.iconst 2, 1) := by decide +kernel
theorem dX8_addPlot_20 : decode cX8_addPlot 20 = .ok (.iload_n 3, 1) := by decide +kernel
theorem dX8_addPlot_21 : decode cX8_addPlot 21 = .ok (.invokevirtual 79, 3) := by decide +kernel
theorem dX8_addPlot_24 : decode cX8_addPlot 24 = .ok (.ifCond .eq 37, 3) := by decide +kernel
theorem dX8_addPlot_27 : decode cX8_addPlot 27 = .ok (.aload_n 0, 1) := by decide +kernel
theorem dX8_addPlot_28 : decode cX8_addPlot 28 = .ok (.iconst 3, 1) := by decide +kernel
theorem dX8_addPlot_29 : decode cX8_addPlot 29 = .ok (.iload 4, 2) := by decide +kernel
theorem dX8_addPlot_31 : decode cX8_addPlot 31 = .ok (.invokevirtual 79, 3) := by decide +kernel
theorem dX8_addPlot_34 : decode cX8_addPlot 34 = .ok (.ifCond .eq 27, 3) := by decide +kernel
theorem dX8_addPlot_37 : decode cX8_addPlot 37 = .ok (.aload_n 0, 1) := by decide +kernel
theorem dX8_addPlot_38 : decode cX8_addPlot 38 = .ok (.iconst 4, 1) := by decide +kernel
theorem dX8_addPlot_39 : decode cX8_addPlot 39 = .ok (.iload 5, 2) := by decide +kernel
theorem dX8_addPlot_41 : decode cX8_addPlot 41 = .ok (.invokevirtual 79, 3) := by decide +kernel
theorem dX8_addPlot_44 : decode cX8_addPlot 44 = .ok (.ifCond .eq 17, 3) := by decide +kernel
theorem dX8_addPlot_47 : decode cX8_addPlot 47 = .ok (.aload_n 0, 1) := by decide +kernel
theorem dX8_addPlot_48 : decode cX8_addPlot 48 = .ok (.iconst 5, 1) := by decide +kernel
theorem dX8_addPlot_49 : decode cX8_addPlot 49 = .ok (.iload 6, 2) := by decide +kernel
theorem dX8_addPlot_51 : decode cX8_addPlot 51 = .ok (.invokevirtual 79, 3) := by decide +kernel
theorem dX8_addPlot_54 : decode cX8_addPlot 54 = .ok (.ifCond .eq 7, 3) := by decide +kernel
theorem dX8_addPlot_57 : decode cX8_addPlot 57 = .ok (.iconst 1, 1) := by decide +kernel
theorem dX8_addPlot_58 : decode cX8_addPlot 58 = .ok (.goto 4, 3) := by decide +kernel
theorem dX8_addPlot_61 : decode cX8_addPlot 61 = .ok (.iconst 0, 1) := by decide +kernel
theorem dX8_addPlot_62 : decode cX8_addPlot 62 = .ok (.invokestatic 53, 3) := by decide +kernel
theorem dX8_addPlot_65 : decode cX8_addPlot 65 = .ok (.bipush 30, 2) := by decide +kernel
theorem dX8_addPlot_67 : decode cX8_addPlot 67 = .ok (.aload_n 0, 1) := by decide +kernel
theorem dX8_addPlot_68 : decode cX8_addPlot 68 = .ok (.getfield 26, 3) := by decide +kernel
theorem dX8_addPlot_71 : decode cX8_addPlot 71 = .ok (.getfield 83, 3) := by decide +kernel
theorem dX8_addPlot_74 : decode cX8_addPlot 74 = .ok (.getfield 87, 3) := by decide +kernel
theorem dX8_addPlot_77 : decode cX8_addPlot 77 = .ok (.iconst 0, 1) := by decide +kernel
theorem dX8_addPlot_78 : decode cX8_addPlot 78 = .ok (.iaload, 1) := by decide +kernel
theorem dX8_addPlot_79 : decode cX8_addPlot 79 = .ok (.invokestatic 93, 3) := by decide +kernel
theorem dX8_addPlot_82 : decode cX8_addPlot 82 = .ok (.istore 7, 2) := by decide +kernel
theorem dX8_addPlot_84 : decode cX8_addPlot 84 = .ok (.aload_n 0, 1) := by decide +kernel
theorem dX8_addPlot_85 : decode cX8_addPlot 85 = .ok (.getfield 26, 3) := by decide +kernel
theorem dX8_addPlot_88 : decode cX8_addPlot 88 = .ok (.getfield 67, 3) := by decide +kernel
theorem dX8_addPlot_91 : decode cX8_addPlot 91 = .ok (.ifCond .ne 22, 3) := by decide +kernel
theorem dX8_addPlot_94 : decode cX8_addPlot 94 = .ok (.aload_n 0, 1) := by decide +kernel
theorem dX8_addPlot_95 : decode cX8_addPlot 95 = .ok (.getfield 26, 3) := by decide +kernel
theorem dX8_addPlot_98 : decode cX8_addPlot 98 = .ok (.getfield 70, 3) := by decide +kernel
theorem dX8_addPlot_101 : decode cX8_addPlot 101 = .ok (.getfield 74, 3) := by decide +kernel
theorem dX8_addPlot_104 : decode cX8_addPlot 104 = .ok (.iload 7, 2) := by decide +kernel
theorem dX8_addPlot_106 : decode cX8_addPlot 106 = .ok (.if_icmp .ge 7, 3) := by decide +kernel
theorem dX8_addPlot_109 : decode cX8_addPlot 109 = .ok (.iconst 1, 1) := by decide +kernel
theorem dX8_addPlot_110 : decode cX8_addPlot 110 = .ok (.goto 4, 3) := by decide +kernel
theorem dX8_addPlot_113 : decode cX8_addPlot 113 = .ok (.iconst 0, 1) := by decide +kernel
theorem dX8_addPlot_114 : decode cX8_addPlot 114 = .ok (.invokestatic 37, 3) := by decide +kernel
theorem dX8_addPlot_117 : decode cX8_addPlot 117 = .ok (.aload_n 0, 1) := by decide +kernel
theorem dX8_addPlot_118 : decode cX8_addPlot 118 = .ok (.getfield 19, 3) := by decide +kernel
theorem dX8_addPlot_121 : decode cX8_addPlot 121 = .ok (.aload_n 0, 1) := by decide +kernel
theorem dX8_addPlot_122 : decode cX8_addPlot 122 = .ok (.getfield 26, 3) := by decide +kernel
theorem dX8_addPlot_125 : decode cX8_addPlot 125 = .ok (.invokevirtual 60, 3) := by decide +kernel
theorem dX8_addPlot_128 : decode cX8_addPlot 128 = .ok (.aload_n 0, 1) := by decide +kernel
theorem dX8_addPlot_129 : decode cX8_addPlot 129 = .ok (.getfield 26, 3) := by decide +kernel
theorem dX8_addPlot_132 : decode cX8_addPlot 132 = .ok (.getfield 70, 3) := by decide +kernel
theorem dX8_addPlot_135 : decode cX8_addPlot 135 = .ok (.iload_n 1, 1) := by decide +kernel
theorem dX8_addPlot_136 : decode cX8_addPlot 136 = .ok (.iload_n 2, 1) := by decide +kernel
theorem dX8_addPlot_137 : decode cX8_addPlot 137 = .ok (.iload_n 3, 1) := by decide +kernel
theorem dX8_addPlot_138 : decode cX8_addPlot 138 = .ok (.iload 4, 2) := by decide +kernel
theorem dX8_addPlot_140 : decode cX8_addPlot 140 = .ok (.iload 5, 2) := by decide +kernel
theorem dX8_addPlot_142 : decode cX8_addPlot 142 = .ok (.iload 6, 2) := by decide +kernel
theorem dX8_addPlot_144 : decode cX8_addPlot 144 = .ok (.invokevirtual 99, 3) := by decide +kernel
theorem dX8_addPlot_147 : decode cX8_addPlot 147 = .ok (.aload_n 0, 1) := by decide +kernel
theorem dX8_addPlot_148 : decode cX8_addPlot 148 = .ok (.getfield 26, 3) := by decide +kernel
theorem dX8_addPlot_151 : decode cX8_addPlot 151 = .ok (.getfield 70, 3) := by decide +kernel
theorem dX8_addPlot_154 : decode cX8_addPlot 154 = .ok (.getfield 74, 3) := by decide +kernel
theorem dX8_addPlot_157 : decode cX8_addPlot 157 = .ok (.ireturn, 1) := by decide +kernel
theorem dX8_removePlot_0 : decode cX8_removePlot 0 = .ok (.iload_n 1, 1) := by decide +kernel
theorem dX8_removePlot_1 : decode cX8_removePlot 1 = .ok (.iconst 0, 1) := by decide +kernel
theorem dX8_removePlot_2 : decode cX8_removePlot 2 = .ok (.aload_n 0, 1) := by decide +kernel
theorem dX8_removePlot_3 : decode cX8_removePlot 3 = .ok (.getfield 26, 3) := by decide +kernel
theorem dX8_removePlot_6 : decode cX8_removePlot 6 = .ok (.getfield 70, 3) := by decide +kernel
theorem dX8_removePlot_9 : decode cX8_removePlot 9 = .ok (.getfield 74, 3) := by decide +kernel
theorem dX8_removePlot_12 : decode cX8_removePlot 12 = .ok (.iconst 1, 1) := by decide +kernel
theorem dX8_removePlot_13 : decode cX8_removePlot 13 = .ok (.isub, 1) := by decide +kernel
theorem dX8_removePlot_14 : decode cX8_removePlot 14 = .ok (.invokestatic 49, 3) := by decide +kernel
theorem dX8_removePlot_17 : decode cX8_removePlot 17 = .ok (.invokestatic 103, 3) := by decide +kernel
theorem dX8_removePlot_20 : decode cX8_removePlot 20 = .ok (.aload_n 0, 1) := by decide +kernel
theorem dX8_removePlot_21 : decode cX8_removePlot 21 = .ok (.getfield 26, 3) := by decide +kernel
theorem dX8_removePlot_24 : decode cX8_removePlot 24 = .ok (.getfield 67, 3) := by decide +kernel
theorem dX8_removePlot_27 : decode cX8_removePlot 27 = .ok (.ifCond .ne 7, 3) := by decide +kernel
theorem dX8_removePlot_30 : decode cX8_removePlot 30 = .ok (.iconst 1, 1) := by decide +kernel
theorem dX8_removePlot_31 : decode cX8_removePlot 31 = .ok (.goto 4, 3) := by decide +kernel
theorem dX8_removePlot_34 : decode cX8_removePlot 34 = .ok (.iconst 0, 1) := by decide +kernel
theorem dX8_removePlot_35 : decode cX8_removePlot 35 = .ok (.invokestatic 37, 3) := by decide +kernel
theorem dX8_removePlot_38 : decode cX8_removePlot 38 = .ok (.aload_n 0, 1) := by decide +kernel
theorem dX8_removePlot_39 : decode cX8_removePlot 39 = .ok (.getfield 19, 3) := by decide +kernel
theorem dX8_removePlot_42 : decode cX8_removePlot 42 = .ok (.aload_n 0, 1) := by decide +kernel
theorem dX8_removePlot_43 : decode cX8_removePlot 43 = .ok (.getfield 26, 3) := by decide +kernel
theorem dX8_removePlot_46 : decode cX8_removePlot 46 = .ok (.invokevirtual 60, 3) := by decide +kernel
theorem dX8_removePlot_49 : decode cX8_removePlot 49 = .ok (.aload_n 0, 1) := by decide +kernel
theorem dX8_removePlot_50 : decode cX8_removePlot 50 = .ok (.getfield 26, 3) := by decide +kernel
theorem dX8_removePlot_53 : decode cX8_removePlot 53 = .ok (.getfield 70, 3) := by decide +kernel
theorem dX8_removePlot_56 : decode cX8_removePlot 56 = .ok (.iload_n 1, 1) := by decide +kernel
theorem dX8_removePlot_57 : decode cX8_removePlot 57 = .ok (.invokevirtual 106, 3) := by decide +kernel
theorem dX8_removePlot_60 : decode cX8_removePlot 60 = .ok (.aload_n 0, 1) := by decide +kernel
theorem dX8_removePlot_61 : decode cX8_removePlot 61 = .ok (.getfield 26, 3) := by decide +kernel
theorem dX8_removePlot_64 : decode cX8_removePlot 64 = .ok (.getfield 70, 3) := by decide +kernel
theorem dX8_removePlot_67 : decode cX8_removePlot 67 = .ok (.getfield 74, 3) := by decide +kernel
theorem dX8_removePlot_70 : decode cX8_removePlot 70 = .ok (.ireturn, 1) := by decide +kernel
theorem dX8_estimate_0 : decode cX8_estimate 0 = .ok (.aload_n 0, 1) := by decide +kernel
theorem dX8_estimate_1 : decode cX8_estimate 1 = .ok (.iload_n 1, 1) := by decide +kernel
theorem dX8_estimate_2 : decode cX8_estimate 2 = .ok (.invokevirtual 109, 3) := by decide +kernel
theorem dX8_estimate_5 : decode cX8_estimate 5 = .ok (.invokestatic 103, 3) := by decide +kernel
theorem dX8_estimate_8 : decode cX8_estimate 8 = .ok (.aload_n 0, 1) := by decide +kernel
theorem dX8_estimate_9 : decode cX8_estimate 9 = .ok (.getfield 26, 3) := by decide +kernel
theorem dX8_estimate_12 : decode cX8_estimate 12 = .ok (.getfield 70, 3) := by decide +kernel
theorem dX8_estimate_15 : decode cX8_estimate 15 = .ok (.getfield 74, 3) := by decide +kernel
theorem dX8_estimate_18 : decode cX8_estimate 18 = .ok (.iconst 1, 1) := by decide +kernel
theorem dX8_estimate_19 : decode cX8_estimate 19 = .ok (.if_icmp .lt 7, 3) := by decide +kernel
theorem dX8_estimate_22 : decode cX8_estimate 22 = .ok (.iconst 1, 1) := by decide +kernel
theorem dX8_estimate_23 : decode cX8_estimate 23 = .ok (.goto 4, 3) := by decide +kernel
theorem dX8_estimate_26 : decode cX8_estimate 26 = .ok (.iconst 0, 1) := by decide +kernel
theorem dX8_estimate_27 : decode cX8_estimate 27 = .ok (.invokestatic 37, 3) := by decide +kernel
theorem dX8_estimate_30 : decode cX8_estimate 30 = .ok (.aload_n 0, 1) := by decide +kernel
theorem dX8_estimate_31 : decode cX8_estimate 31 = .ok (.getfield 26, 3) := by decide +kernel
theorem dX8_estimate_34 : decode cX8_estimate 34 = .ok (.getfield 83, 3) := by decide +kernel
theorem dX8_estimate_37 : decode cX8_estimate 37 = .ok (.getfield 87, 3) := by decide +kernel
theorem dX8_estimate_40 : decode cX8_estimate 40 = .ok (.iconst 0, 1) := by decide +kernel
theorem dX8_estimate_41 : decode cX8_estimate 41 = .ok (.iaload, 1) := by decide +kernel
theorem dX8_estimate_42 : decode cX8_estimate 42 = .ok (.i2l, 1) := by decide +kernel
theorem dX8_estimate_43 : decode cX8_estimate 43 = .ok (.aload_n 0, 1) := by decide +kernel
theorem dX8_estimate_44 : decode cX8_estimate 44 = .ok (.getfield 26, 3) := by decide +kernel
theorem dX8_estimate_47 : decode cX8_estimate 47 = .ok (.getfield 70, 3) := by decide +kernel
theorem dX8_estimate_50 : decode cX8_estimate 50 = .ok (.iload_n 1, 1) := by decide +kernel
theorem dX8_estimate_51 : decode cX8_estimate 51 = .ok (.invokevirtual 113, 3) := by decide +kernel
theorem dX8_estimate_54 : decode cX8_estimate 54 = .ok (.lmul, 1) := by decide +kernel
theorem dX8_estimate_55 : decode cX8_estimate 55 = .ok (.lstore_n 3, 1) := by decide +kernel
theorem dX8_estimate_56 : decode cX8_estimate 56 = .ok (.lload_n 3, 1) := by decide +kernel
theorem dX8_estimate_57 : decode cX8_estimate 57 = .ok (.aload_n 0, 1) := by decide +kernel
theorem dX8_estimate_58 : decode cX8_estimate 58 = .ok (.getfield 26, 3) := by decide +kernel
theorem dX8_estimate_61 : decode cX8_estimate 61 = .ok (.getfield 70, 3) := by decide +kernel
theorem dX8_estimate_64 : decode cX8_estimate 64 = .ok (.getfield 74, 3) := by decide +kernel
theorem dX8_estimate_67 : decode cX8_estimate 67 = .ok (.i2l, 1) := by decide +kernel
theorem dX8_estimate_68 : decode cX8_estimate 68 = .ok (.iload_n 2, 1) := by decide +kernel
theorem dX8_estimate_69 : decode cX8_estimate 69 = .ok (.invokestatic 117, 3) := by decide +kernel
theorem dX8_estimate_72 : decode cX8_estimate 72 = .ok (.lreturn, 1) := by decide +kernel
theorem dX8_squaredError_0 : decode cX8_squaredError 0 = .ok (.aload_n 0, 1) := by decide +kernel
theorem dX8_squaredError_1 : decode cX8_squaredError 1 = .ok (.iload_n 1, 1) := by decide +kernel
theorem dX8_squaredError_2 : decode cX8_squaredError 2 = .ok (.invokevirtual 109, 3) := by decide +kernel
theorem dX8_squaredError_5 : decode cX8_squaredError 5 = .ok (.invokestatic 103, 3) := by decide +kernel
theorem dX8_squaredError_8 : decode cX8_squaredError 8 = .ok (.aload_n 0, 1) := by decide +kernel
theorem dX8_squaredError_9 : decode cX8_squaredError 9 = .ok (.getfield 26, 3) := by decide +kernel
theorem dX8_squaredError_12 : decode cX8_squaredError 12 = .ok (.getfield 70, 3) := by decide +kernel
theorem dX8_squaredError_15 : decode cX8_squaredError 15 = .ok (.getfield 74, 3) := by decide +kernel
theorem dX8_squaredError_18 : decode cX8_squaredError 18 = .ok (.iconst 2, 1) := by decide +kernel
theorem dX8_squaredError_19 : decode cX8_squaredError 19 = .ok (.if_icmp .lt 7, 3) := by decide +kernel
theorem dX8_squaredError_22 : decode cX8_squaredError 22 = .ok (.iconst 1, 1) := by decide +kernel
theorem dX8_squaredError_23 : decode cX8_squaredError 23 = .ok (.goto 4, 3) := by decide +kernel
theorem dX8_squaredError_26 : decode cX8_squaredError 26 = .ok (.iconst 0, 1) := by decide +kernel
theorem dX8_squaredError_27 : decode cX8_squaredError 27 = .ok (.invokestatic 37, 3) := by decide +kernel
theorem dX8_squaredError_30 : decode cX8_squaredError 30 = .ok (.aload_n 0, 1) := by decide +kernel
theorem dX8_squaredError_31 : decode cX8_squaredError 31 = .ok (.getfield 26, 3) := by decide +kernel
theorem dX8_squaredError_34 : decode cX8_squaredError 34 = .ok (.getfield 83, 3) := by decide +kernel
theorem dX8_squaredError_37 : decode cX8_squaredError 37 = .ok (.getfield 87, 3) := by decide +kernel
theorem dX8_squaredError_40 : decode cX8_squaredError 40 = .ok (.iconst 0, 1) := by decide +kernel
theorem dX8_squaredError_41 : decode cX8_squaredError 41 = .ok (.iaload, 1) := by decide +kernel
theorem dX8_squaredError_42 : decode cX8_squaredError 42 = .ok (.i2l, 1) := by decide +kernel
theorem dX8_squaredError_43 : decode cX8_squaredError 43 = .ok (.lstore_n 3, 1) := by decide +kernel
theorem dX8_squaredError_44 : decode cX8_squaredError 44 = .ok (.aload_n 0, 1) := by decide +kernel
theorem dX8_squaredError_45 : decode cX8_squaredError 45 = .ok (.getfield 26, 3) := by decide +kernel
theorem dX8_squaredError_48 : decode cX8_squaredError 48 = .ok (.getfield 70, 3) := by decide +kernel
theorem dX8_squaredError_51 : decode cX8_squaredError 51 = .ok (.getfield 74, 3) := by decide +kernel
theorem dX8_squaredError_54 : decode cX8_squaredError 54 = .ok (.i2l, 1) := by decide +kernel
theorem dX8_squaredError_55 : decode cX8_squaredError 55 = .ok (.lstore 5, 2) := by decide +kernel
theorem dX8_squaredError_57 : decode cX8_squaredError 57 = .ok (.lload_n 3, 1) := by decide +kernel
theorem dX8_squaredError_58 : decode cX8_squaredError 58 = .ok (.lload_n 3, 1) := by decide +kernel
theorem dX8_squaredError_59 : decode cX8_squaredError 59 = .ok (.lload 5, 2) := by decide +kernel
theorem dX8_squaredError_61 : decode cX8_squaredError 61 = .ok (.lsub, 1) := by decide +kernel
theorem dX8_squaredError_62 : decode cX8_squaredError 62 = .ok (.lmul, 1) := by decide +kernel
theorem dX8_squaredError_63 : decode cX8_squaredError 63 = .ok (.aload_n 0, 1) := by decide +kernel
theorem dX8_squaredError_64 : decode cX8_squaredError 64 = .ok (.getfield 26, 3) := by decide +kernel
theorem dX8_squaredError_67 : decode cX8_squaredError 67 = .ok (.getfield 70, 3) := by decide +kernel
theorem dX8_squaredError_70 : decode cX8_squaredError 70 = .ok (.iload_n 1, 1) := by decide +kernel
theorem dX8_squaredError_71 : decode cX8_squaredError 71 = .ok (.invokevirtual 121, 3) := by decide +kernel
theorem dX8_squaredError_74 : decode cX8_squaredError 74 = .ok (.lmul, 1) := by decide +kernel
theorem dX8_squaredError_75 : decode cX8_squaredError 75 = .ok (.lstore 7, 2) := by decide +kernel
theorem dX8_squaredError_77 : decode cX8_squaredError 77 = .ok (.lload 7, 2) := by decide +kernel
theorem dX8_squaredError_79 : decode cX8_squaredError 79 = .ok (.lload 5, 2) := by decide +kernel
theorem dX8_squaredError_81 : decode cX8_squaredError 81 = .ok (.lload 5, 2) := by decide +kernel
theorem dX8_squaredError_83 : decode cX8_squaredError 83 = .ok (.lmul, 1) := by decide +kernel
theorem dX8_squaredError_84 : decode cX8_squaredError 84 = .ok (.lload 5, 2) := by decide +kernel
theorem dX8_squaredError_86 : decode cX8_squaredError 86 = .ok (.lconst 1, 1) := by decide +kernel
theorem dX8_squaredError_87 : decode cX8_squaredError 87 = .ok (.lsub, 1) := by decide +kernel
theorem dX8_squaredError_88 : decode cX8_squaredError 88 = .ok (.lmul, 1) := by decide +kernel
theorem dX8_squaredError_89 : decode cX8_squaredError 89 = .ok (.iload_n 2, 1) := by decide +kernel
theorem dX8_squaredError_90 : decode cX8_squaredError 90 = .ok (.invokestatic 117, 3) := by decide +kernel
theorem dX8_squaredError_93 : decode cX8_squaredError 93 = .ok (.lreturn, 1) := by decide +kernel
theorem dX8_isAccurate_0 : decode cX8_isAccurate 0 = .ok (.aload_n 0, 1) := by decide +kernel
theorem dX8_isAccurate_1 : decode cX8_isAccurate 1 = .ok (.iload_n 1, 1) := by decide +kernel
theorem dX8_isAccurate_2 : decode cX8_isAccurate 2 = .ok (.iload_n 2, 1) := by decide +kernel
theorem dX8_isAccurate_3 : decode cX8_isAccurate 3 = .ok (.invokevirtual 124, 3) := by decide +kernel
theorem dX8_isAccurate_6 : decode cX8_isAccurate 6 = .ok (.aload_n 0, 1) := by decide +kernel
theorem dX8_isAccurate_7 : decode cX8_isAccurate 7 = .ok (.getfield 26, 3) := by decide +kernel
theorem dX8_isAccurate_10 : decode cX8_isAccurate 10 = .ok (.getfield 83, 3) := by decide +kernel
theorem dX8_isAccurate_13 : decode cX8_isAccurate 13 = .ok (.getfield 87, 3) := by decide +kernel
theorem dX8_isAccurate_16 : decode cX8_isAccurate 16 = .ok (.iconst 0, 1) := by decide +kernel
theorem dX8_isAccurate_17 : decode cX8_isAccurate 17 = .ok (.iaload, 1) := by decide +kernel
theorem dX8_isAccurate_18 : decode cX8_isAccurate 18 = .ok (.istore_n 3, 1) := by decide +kernel
theorem dX8_isAccurate_19 : decode cX8_isAccurate 19 = .ok (.aload_n 0, 1) := by decide +kernel
theorem dX8_isAccurate_20 : decode cX8_isAccurate 20 = .ok (.getfield 26, 3) := by decide +kernel
theorem dX8_isAccurate_23 : decode cX8_isAccurate 23 = .ok (.getfield 70, 3) := by decide +kernel
theorem dX8_isAccurate_26 : decode cX8_isAccurate 26 = .ok (.getfield 74, 3) := by decide +kernel
theorem dX8_isAccurate_29 : decode cX8_isAccurate 29 = .ok (.istore 4, 2) := by decide +kernel
theorem dX8_isAccurate_31 : decode cX8_isAccurate 31 = .ok (.aload_n 0, 1) := by decide +kernel
theorem dX8_isAccurate_32 : decode cX8_isAccurate 32 = .ok (.getfield 26, 3) := by decide +kernel
theorem dX8_isAccurate_35 : decode cX8_isAccurate 35 = .ok (.getfield 70, 3) := by decide +kernel
theorem dX8_isAccurate_38 : decode cX8_isAccurate 38 = .ok (.iload_n 1, 1) := by decide +kernel
theorem dX8_isAccurate_39 : decode cX8_isAccurate 39 = .ok (.invokevirtual 128, 3) := by decide +kernel
theorem dX8_isAccurate_42 : decode cX8_isAccurate 42 = .ok (.lstore 5, 2) := by decide +kernel
theorem dX8_isAccurate_44 : decode cX8_isAccurate 44 = .ok (.aload_n 0, 1) := by decide +kernel
theorem dX8_isAccurate_45 : decode cX8_isAccurate 45 = .ok (.getfield 26, 3) := by decide +kernel
theorem dX8_isAccurate_48 : decode cX8_isAccurate 48 = .ok (.getfield 70, 3) := by decide +kernel
theorem dX8_isAccurate_51 : decode cX8_isAccurate 51 = .ok (.iload_n 1, 1) := by decide +kernel
theorem dX8_isAccurate_52 : decode cX8_isAccurate 52 = .ok (.iload_n 2, 1) := by decide +kernel
theorem dX8_isAccurate_53 : decode cX8_isAccurate 53 = .ok (.iload_n 3, 1) := by decide +kernel
theorem dX8_isAccurate_54 : decode cX8_isAccurate 54 = .ok (.invokevirtual 131, 3) := by decide +kernel
theorem dX8_isAccurate_57 : decode cX8_isAccurate 57 = .ok (.lstore 7, 2) := by decide +kernel
theorem dX8_isAccurate_59 : decode cX8_isAccurate 59 = .ok (.lload 5, 2) := by decide +kernel
theorem dX8_isAccurate_61 : decode cX8_isAccurate 61 = .ok (.iload_n 3, 1) := by decide +kernel
theorem dX8_isAccurate_62 : decode cX8_isAccurate 62 = .ok (.iload 4, 2) := by decide +kernel
theorem dX8_isAccurate_64 : decode cX8_isAccurate 64 = .ok (.isub, 1) := by decide +kernel
theorem dX8_isAccurate_65 : decode cX8_isAccurate 65 = .ok (.i2l, 1) := by decide +kernel
theorem dX8_isAccurate_66 : decode cX8_isAccurate 66 = .ok (.lmul, 1) := by decide +kernel
theorem dX8_isAccurate_67 : decode cX8_isAccurate 67 = .ok (.lload 7, 2) := by decide +kernel
theorem dX8_isAccurate_69 : decode cX8_isAccurate 69 = .ok (.iload 4, 2) := by decide +kernel
theorem dX8_isAccurate_71 : decode cX8_isAccurate 71 = .ok (.i2l, 1) := by decide +kernel
theorem dX8_isAccurate_72 : decode cX8_isAccurate 72 = .ok (.lmul, 1) := by decide +kernel
theorem dX8_isAccurate_73 : decode cX8_isAccurate 73 = .ok (.lcmp, 1) := by decide +kernel
theorem dX8_isAccurate_74 : decode cX8_isAccurate 74 = .ok (.ifCond .gt 7, 3) := by decide +kernel
theorem dX8_isAccurate_77 : decode cX8_isAccurate 77 = .ok (.iconst 1, 1) := by decide +kernel
theorem dX8_isAccurate_78 : decode cX8_isAccurate 78 = .ok (.goto 4, 3) := by decide +kernel
theorem dX8_isAccurate_81 : decode cX8_isAccurate 81 = .ok (.iconst 0, 1) := by decide +kernel
theorem dX8_isAccurate_82 : decode cX8_isAccurate 82 = .ok (.ireturn, 1) := by decide +kernel
theorem dX8_neededPlots_0 : decode cX8_neededPlots 0 = .ok (.aload_n 0, 1) := by decide +kernel
theorem dX8_neededPlots_1 : decode cX8_neededPlots 1 = .ok (.iload_n 1, 1) := by decide +kernel
theorem dX8_neededPlots_2 : decode cX8_neededPlots 2 = .ok (.iload_n 2, 1) := by decide +kernel
theorem dX8_neededPlots_3 : decode cX8_neededPlots 3 = .ok (.invokevirtual 124, 3) := by decide +kernel
theorem dX8_neededPlots_6 : decode cX8_neededPlots 6 = .ok (.aload_n 0, 1) := by decide +kernel
theorem dX8_neededPlots_7 : decode cX8_neededPlots 7 = .ok (.getfield 26, 3) := by decide +kernel
theorem dX8_neededPlots_10 : decode cX8_neededPlots 10 = .ok (.getfield 83, 3) := by decide +kernel
theorem dX8_neededPlots_13 : decode cX8_neededPlots 13 = .ok (.getfield 87, 3) := by decide +kernel
theorem dX8_neededPlots_16 : decode cX8_neededPlots 16 = .ok (.iconst 0, 1) := by decide +kernel
theorem dX8_neededPlots_17 : decode cX8_neededPlots 17 = .ok (.iaload, 1) := by decide +kernel
theorem dX8_neededPlots_18 : decode cX8_neededPlots 18 = .ok (.istore_n 3, 1) := by decide +kernel
theorem dX8_neededPlots_19 : decode cX8_neededPlots 19 = .ok (.aload_n 0, 1) := by decide +kernel
theorem dX8_neededPlots_20 : decode cX8_neededPlots 20 = .ok (.getfield 26, 3) := by decide +kernel
theorem dX8_neededPlots_23 : decode cX8_neededPlots 23 = .ok (.getfield 70, 3) := by decide +kernel
theorem dX8_neededPlots_26 : decode cX8_neededPlots 26 = .ok (.iload_n 1, 1) := by decide +kernel
theorem dX8_neededPlots_27 : decode cX8_neededPlots 27 = .ok (.invokevirtual 128, 3) := by decide +kernel
theorem dX8_neededPlots_30 : decode cX8_neededPlots 30 = .ok (.lstore 4, 2) := by decide +kernel
theorem dX8_neededPlots_32 : decode cX8_neededPlots 32 = .ok (.aload_n 0, 1) := by decide +kernel
theorem dX8_neededPlots_33 : decode cX8_neededPlots 33 = .ok (.getfield 26, 3) := by decide +kernel
theorem dX8_neededPlots_36 : decode cX8_neededPlots 36 = .ok (.getfield 70, 3) := by decide +kernel
theorem dX8_neededPlots_39 : decode cX8_neededPlots 39 = .ok (.iload_n 1, 1) := by decide +kernel
theorem dX8_neededPlots_40 : decode cX8_neededPlots 40 = .ok (.iload_n 2, 1) := by decide +kernel
theorem dX8_neededPlots_41 : decode cX8_neededPlots 41 = .ok (.iload_n 3, 1) := by decide +kernel
theorem dX8_neededPlots_42 : decode cX8_neededPlots 42 = .ok (.invokevirtual 131, 3) := by decide +kernel
theorem dX8_neededPlots_45 : decode cX8_neededPlots 45 = .ok (.lstore 6, 2) := by decide +kernel
theorem dX8_neededPlots_47 : decode cX8_neededPlots 47 = .ok (.iconst 1, 1) := by decide +kernel
theorem dX8_neededPlots_48 : decode cX8_neededPlots 48 = .ok (.istore 8, 2) := by decide +kernel
theorem dX8_neededPlots_50 : decode cX8_neededPlots 50 = .ok (.iload 8, 2) := by decide +kernel
theorem dX8_neededPlots_52 : decode cX8_neededPlots 52 = .ok (.iload_n 3, 1) := by decide +kernel
theorem dX8_neededPlots_53 : decode cX8_neededPlots 53 = .ok (.if_icmp .ge 30, 3) := by decide +kernel
theorem dX8_neededPlots_56 : decode cX8_neededPlots 56 = .ok (.lload 4, 2) := by decide +kernel
theorem dX8_neededPlots_58 : decode cX8_neededPlots 58 = .ok (.iload_n 3, 1) := by decide +kernel
theorem dX8_neededPlots_59 : decode cX8_neededPlots 59 = .ok (.iload 8, 2) := by decide +kernel
theorem dX8_neededPlots_61 : decode cX8_neededPlots 61 = .ok (.isub, 1) := by decide +kernel
theorem dX8_neededPlots_62 : decode cX8_neededPlots 62 = .ok (.i2l, 1) := by decide +kernel
theorem dX8_neededPlots_63 : decode cX8_neededPlots 63 = .ok (.lmul, 1) := by decide +kernel
theorem dX8_neededPlots_64 : decode cX8_neededPlots 64 = .ok (.lload 6, 2) := by decide +kernel
theorem dX8_neededPlots_66 : decode cX8_neededPlots 66 = .ok (.iload 8, 2) := by decide +kernel
theorem dX8_neededPlots_68 : decode cX8_neededPlots 68 = .ok (.i2l, 1) := by decide +kernel
theorem dX8_neededPlots_69 : decode cX8_neededPlots 69 = .ok (.lmul, 1) := by decide +kernel
theorem dX8_neededPlots_70 : decode cX8_neededPlots 70 = .ok (.lcmp, 1) := by decide +kernel
theorem dX8_neededPlots_71 : decode cX8_neededPlots 71 = .ok (.ifCond .gt 6, 3) := by decide +kernel
theorem dX8_neededPlots_74 : decode cX8_neededPlots 74 = .ok (.iload 8, 2) := by decide +kernel
theorem dX8_neededPlots_76 : decode cX8_neededPlots 76 = .ok (.ireturn, 1) := by decide +kernel
theorem dX8_neededPlots_77 : decode cX8_neededPlots 77 = .ok (.iinc 8 1, 3) := by decide +kernel
theorem dX8_neededPlots_80 : decode cX8_neededPlots 80 = .ok (.goto (-30), 3) := by decide +kernel
theorem dX8_neededPlots_83 : decode cX8_neededPlots 83 = .ok (.iload_n 3, 1) := by decide +kernel
theorem dX8_neededPlots_84 : decode cX8_neededPlots 84 = .ok (.ireturn, 1) := by decide +kernel
theorem dX8_mostInfluentialPlot_0 : decode cX8_mostInfluentialPlot 0 = .ok (.aload_n 0, 1) := by decide +kernel
theorem dX8_mostInfluentialPlot_1 : decode cX8_mostInfluentialPlot 1 = .ok (.iload_n 1, 1) := by decide +kernel
theorem dX8_mostInfluentialPlot_2 : decode cX8_mostInfluentialPlot 2 = .ok (.invokevirtual 109, 3) := by decide +kernel
theorem dX8_mostInfluentialPlot_5 : decode cX8_mostInfluentialPlot 5 = .ok (.invokestatic 103, 3) := by decide +kernel
theorem dX8_mostInfluentialPlot_8 : decode cX8_mostInfluentialPlot 8 = .ok (.aload_n 0, 1) := by decide +kernel
theorem dX8_mostInfluentialPlot_9 : decode cX8_mostInfluentialPlot 9 = .ok (.getfield 26, 3) := by decide +kernel
theorem dX8_mostInfluentialPlot_12 : decode cX8_mostInfluentialPlot 12 = .ok (.getfield 70, 3) := by decide +kernel
theorem dX8_mostInfluentialPlot_15 : decode cX8_mostInfluentialPlot 15 = .ok (.getfield 74, 3) := by decide +kernel
theorem dX8_mostInfluentialPlot_18 : decode cX8_mostInfluentialPlot 18 = .ok (.iconst 2, 1) := by decide +kernel
theorem dX8_mostInfluentialPlot_19 : decode cX8_mostInfluentialPlot 19 = .ok (.if_icmp .lt 7, 3) := by decide +kernel
theorem dX8_mostInfluentialPlot_22 : decode cX8_mostInfluentialPlot 22 = .ok (.iconst 1, 1) := by decide +kernel
theorem dX8_mostInfluentialPlot_23 : decode cX8_mostInfluentialPlot 23 = .ok (.goto 4, 3) := by decide +kernel
theorem dX8_mostInfluentialPlot_26 : decode cX8_mostInfluentialPlot 26 = .ok (.iconst 0, 1) := by decide +kernel
theorem dX8_mostInfluentialPlot_27 : decode cX8_mostInfluentialPlot 27 = .ok (.invokestatic 37, 3) := by decide +kernel
theorem dX8_mostInfluentialPlot_30 : decode cX8_mostInfluentialPlot 30 = .ok (.aload_n 0, 1) := by decide +kernel
theorem dX8_mostInfluentialPlot_31 : decode cX8_mostInfluentialPlot 31 = .ok (.getfield 26, 3) := by decide +kernel
theorem dX8_mostInfluentialPlot_34 : decode cX8_mostInfluentialPlot 34 = .ok (.getfield 70, 3) := by decide +kernel
theorem dX8_mostInfluentialPlot_37 : decode cX8_mostInfluentialPlot 37 = .ok (.iload_n 1, 1) := by decide +kernel
theorem dX8_mostInfluentialPlot_38 : decode cX8_mostInfluentialPlot 38 = .ok (.invokevirtual 135, 3) := by decide +kernel
theorem dX8_mostInfluentialPlot_41 : decode cX8_mostInfluentialPlot 41 = .ok (.ireturn, 1) := by decide +kernel
theorem dX8_advertise_0 : decode cX8_advertise 0 = .ok (.aload_n 0, 1) := by decide +kernel
theorem dX8_advertise_1 : decode cX8_advertise 1 = .ok (.getfield 26, 3) := by decide +kernel
theorem dX8_advertise_4 : decode cX8_advertise 4 = .ok (.getfield 67, 3) := by decide +kernel
theorem dX8_advertise_7 : decode cX8_advertise 7 = .ok (.ifCond .eq 14, 3) := by decide +kernel
theorem dX8_advertise_10 : decode cX8_advertise 10 = .ok (.aload_n 0, 1) := by decide +kernel
theorem dX8_advertise_11 : decode cX8_advertise 11 = .ok (.getfield 26, 3) := by decide +kernel
theorem dX8_advertise_14 : decode cX8_advertise 14 = .ok (.getfield 67, 3) := by decide +kernel
theorem dX8_advertise_17 : decode cX8_advertise 17 = .ok (.iconst 5, 1) := by decide +kernel
theorem dX8_advertise_18 : decode cX8_advertise 18 = .ok (.if_icmp .ne 20, 3) := by decide +kernel
theorem dX8_advertise_21 : decode cX8_advertise 21 = .ok (.aload_n 0, 1) := by decide +kernel
theorem dX8_advertise_22 : decode cX8_advertise 22 = .ok (.getfield 26, 3) := by decide +kernel
theorem dX8_advertise_25 : decode cX8_advertise 25 = .ok (.getfield 83, 3) := by decide +kernel
theorem dX8_advertise_28 : decode cX8_advertise 28 = .ok (.getfield 139, 3) := by decide +kernel
theorem dX8_advertise_31 : decode cX8_advertise 31 = .ok (.ifCond .le 7, 3) := by decide +kernel
theorem dX8_advertise_34 : decode cX8_advertise 34 = .ok (.iconst 1, 1) := by decide +kernel
theorem dX8_advertise_35 : decode cX8_advertise 35 = .ok (.goto 4, 3) := by decide +kernel
theorem dX8_advertise_38 : decode cX8_advertise 38 = .ok (.iconst 0, 1) := by decide +kernel
theorem dX8_advertise_39 : decode cX8_advertise 39 = .ok (.invokestatic 37, 3) := by decide +kernel
theorem dX8_advertise_42 : decode cX8_advertise 42 = .ok (.aload_n 0, 1) := by decide +kernel
theorem dX8_advertise_43 : decode cX8_advertise 43 = .ok (.getfield 19, 3) := by decide +kernel
theorem dX8_advertise_46 : decode cX8_advertise 46 = .ok (.aload_n 0, 1) := by decide +kernel
theorem dX8_advertise_47 : decode cX8_advertise 47 = .ok (.getfield 26, 3) := by decide +kernel
theorem dX8_advertise_50 : decode cX8_advertise 50 = .ok (.invokevirtual 60, 3) := by decide +kernel
theorem dX8_advertise_53 : decode cX8_advertise 53 = .ok (.aload_n 0, 1) := by decide +kernel
theorem dX8_advertise_54 : decode cX8_advertise 54 = .ok (.getfield 26, 3) := by decide +kernel
theorem dX8_advertise_57 : decode cX8_advertise 57 = .ok (.getfield 67, 3) := by decide +kernel
theorem dX8_advertise_60 : decode cX8_advertise 60 = .ok (.ifCond .ne 13, 3) := by decide +kernel
theorem dX8_advertise_63 : decode cX8_advertise 63 = .ok (.aload_n 0, 1) := by decide +kernel
theorem dX8_advertise_64 : decode cX8_advertise 64 = .ok (.getfield 26, 3) := by decide +kernel
theorem dX8_advertise_67 : decode cX8_advertise 67 = .ok (.invokevirtual 142, 3) := by decide +kernel
theorem dX8_advertise_70 : decode cX8_advertise 70 = .ok (.goto 10, 3) := by decide +kernel
theorem dX8_advertise_73 : decode cX8_advertise 73 = .ok (.aload_n 0, 1) := by decide +kernel
theorem dX8_advertise_74 : decode cX8_advertise 74 = .ok (.getfield 26, 3) := by decide +kernel
theorem dX8_advertise_77 : decode cX8_advertise 77 = .ok (.invokevirtual 145, 3) := by decide +kernel
theorem dX8_advertise_80 : decode cX8_advertise 80 = .ok (.aload_n 0, 1) := by decide +kernel
theorem dX8_advertise_81 : decode cX8_advertise 81 = .ok (.getfield 26, 3) := by decide +kernel
theorem dX8_advertise_84 : decode cX8_advertise 84 = .ok (.getfield 148, 3) := by decide +kernel
theorem dX8_advertise_87 : decode cX8_advertise 87 = .ok (.getfield 152, 3) := by decide +kernel
theorem dX8_advertise_90 : decode cX8_advertise 90 = .ok (.invokestatic 157, 3) := by decide +kernel
theorem dX8_advertise_93 : decode cX8_advertise 93 = .ok (.ireturn, 1) := by decide +kernel
theorem dX8_volume_0 : decode cX8_volume 0 = .ok (.aload_n 0, 1) := by decide +kernel
theorem dX8_volume_1 : decode cX8_volume 1 = .ok (.iload_n 1, 1) := by decide +kernel
theorem dX8_volume_2 : decode cX8_volume 2 = .ok (.invokevirtual 161, 3) := by decide +kernel
theorem dX8_volume_5 : decode cX8_volume 5 = .ok (.invokestatic 103, 3) := by decide +kernel
theorem dX8_volume_8 : decode cX8_volume 8 = .ok (.aload_n 0, 1) := by decide +kernel
theorem dX8_volume_9 : decode cX8_volume 9 = .ok (.getfield 26, 3) := by decide +kernel
theorem dX8_volume_12 : decode cX8_volume 12 = .ok (.getfield 67, 3) := by decide +kernel
theorem dX8_volume_15 : decode cX8_volume 15 = .ok (.ifCond .eq 7, 3) := by decide +kernel
theorem dX8_volume_18 : decode cX8_volume 18 = .ok (.iconst 1, 1) := by decide +kernel
theorem dX8_volume_19 : decode cX8_volume 19 = .ok (.goto 4, 3) := by decide +kernel
theorem dX8_volume_22 : decode cX8_volume 22 = .ok (.iconst 0, 1) := by decide +kernel
theorem dX8_volume_23 : decode cX8_volume 23 = .ok (.invokestatic 37, 3) := by decide +kernel
theorem dX8_volume_26 : decode cX8_volume 26 = .ok (.aload_n 0, 1) := by decide +kernel
theorem dX8_volume_27 : decode cX8_volume 27 = .ok (.getfield 26, 3) := by decide +kernel
theorem dX8_volume_30 : decode cX8_volume 30 = .ok (.getfield 148, 3) := by decide +kernel
theorem dX8_volume_33 : decode cX8_volume 33 = .ok (.getfield 152, 3) := by decide +kernel
theorem dX8_volume_36 : decode cX8_volume 36 = .ok (.iload_n 1, 1) := by decide +kernel
theorem dX8_volume_37 : decode cX8_volume 37 = .ok (.iaload, 1) := by decide +kernel
theorem dX8_volume_38 : decode cX8_volume 38 = .ok (.ireturn, 1) := by decide +kernel
theorem dX8_offer_0 : decode cX8_offer 0 = .ok (.iload_n 1, 1) := by decide +kernel
theorem dX8_offer_1 : decode cX8_offer 1 = .ok (.invokestatic 164, 3) := by decide +kernel
theorem dX8_offer_4 : decode cX8_offer 4 = .ok (.ifCond .eq 15, 3) := by decide +kernel
theorem dX8_offer_7 : decode cX8_offer 7 = .ok (.aload_n 0, 1) := by decide +kernel
theorem dX8_offer_8 : decode cX8_offer 8 = .ok (.iload_n 2, 1) := by decide +kernel
theorem dX8_offer_9 : decode cX8_offer 9 = .ok (.invokevirtual 161, 3) := by decide +kernel
theorem dX8_offer_12 : decode cX8_offer 12 = .ok (.ifCond .eq 7, 3) := by decide +kernel
theorem dX8_offer_15 : decode cX8_offer 15 = .ok (.iconst 1, 1) := by decide +kernel
theorem dX8_offer_16 : decode cX8_offer 16 = .ok (.goto 4, 3) := by decide +kernel
theorem dX8_offer_19 : decode cX8_offer 19 = .ok (.iconst 0, 1) := by decide +kernel
theorem dX8_offer_20 : decode cX8_offer 20 = .ok (.invokestatic 103, 3) := by decide +kernel
theorem dX8_offer_23 : decode cX8_offer 23 = .ok (.iload_n 3, 1) := by decide +kernel
theorem dX8_offer_24 : decode cX8_offer 24 = .ok (.iconst 0, 1) := by decide +kernel
theorem dX8_offer_25 : decode cX8_offer 25 = .ok (.ldc 167, 2) := by decide +kernel
theorem dX8_offer_27 : decode cX8_offer 27 = .ok (.invokestatic 49, 3) := by decide +kernel
theorem dX8_offer_30 : decode cX8_offer 30 = .ok (.invokestatic 53, 3) := by decide +kernel
theorem dX8_offer_33 : decode cX8_offer 33 = .ok (.aload_n 0, 1) := by decide +kernel
theorem dX8_offer_34 : decode cX8_offer 34 = .ok (.getfield 26, 3) := by decide +kernel
theorem dX8_offer_37 : decode cX8_offer 37 = .ok (.invokevirtual 168, 3) := by decide +kernel
theorem dX8_offer_40 : decode cX8_offer 40 = .ok (.ifCond .eq 21, 3) := by decide +kernel
theorem dX8_offer_43 : decode cX8_offer 43 = .ok (.aload_n 0, 1) := by decide +kernel
theorem dX8_offer_44 : decode cX8_offer 44 = .ok (.getfield 26, 3) := by decide +kernel
theorem dX8_offer_47 : decode cX8_offer 47 = .ok (.getfield 148, 3) := by decide +kernel
theorem dX8_offer_50 : decode cX8_offer 50 = .ok (.iload_n 1, 1) := by decide +kernel
theorem dX8_offer_51 : decode cX8_offer 51 = .ok (.invokevirtual 171, 3) := by decide +kernel
theorem dX8_offer_54 : decode cX8_offer 54 = .ok (.ifCond .ne 7, 3) := by decide +kernel
theorem dX8_offer_57 : decode cX8_offer 57 = .ok (.iconst 1, 1) := by decide +kernel
theorem dX8_offer_58 : decode cX8_offer 58 = .ok (.goto 4, 3) := by decide +kernel
theorem dX8_offer_61 : decode cX8_offer 61 = .ok (.iconst 0, 1) := by decide +kernel
theorem dX8_offer_62 : decode cX8_offer 62 = .ok (.invokestatic 37, 3) := by decide +kernel
theorem dX8_offer_65 : decode cX8_offer 65 = .ok (.aload_n 0, 1) := by decide +kernel
theorem dX8_offer_66 : decode cX8_offer 66 = .ok (.getfield 19, 3) := by decide +kernel
theorem dX8_offer_69 : decode cX8_offer 69 = .ok (.aload_n 0, 1) := by decide +kernel
theorem dX8_offer_70 : decode cX8_offer 70 = .ok (.getfield 26, 3) := by decide +kernel
theorem dX8_offer_73 : decode cX8_offer 73 = .ok (.invokevirtual 60, 3) := by decide +kernel
theorem dX8_offer_76 : decode cX8_offer 76 = .ok (.aload_n 0, 1) := by decide +kernel
theorem dX8_offer_77 : decode cX8_offer 77 = .ok (.getfield 26, 3) := by decide +kernel
theorem dX8_offer_80 : decode cX8_offer 80 = .ok (.getfield 148, 3) := by decide +kernel
theorem dX8_offer_83 : decode cX8_offer 83 = .ok (.iload_n 1, 1) := by decide +kernel
theorem dX8_offer_84 : decode cX8_offer 84 = .ok (.iload_n 2, 1) := by decide +kernel
theorem dX8_offer_85 : decode cX8_offer 85 = .ok (.invokevirtual 174, 3) := by decide +kernel
theorem dX8_offer_88 : decode cX8_offer 88 = .ok (.istore 4, 2) := by decide +kernel
theorem dX8_offer_90 : decode cX8_offer 90 = .ok (.aload_n 0, 1) := by decide +kernel
theorem dX8_offer_91 : decode cX8_offer 91 = .ok (.getfield 26, 3) := by decide +kernel
theorem dX8_offer_94 : decode cX8_offer 94 = .ok (.getfield 148, 3) := by decide +kernel
theorem dX8_offer_97 : decode cX8_offer 97 = .ok (.iload_n 1, 1) := by decide +kernel
theorem dX8_offer_98 : decode cX8_offer 98 = .ok (.iload_n 2, 1) := by decide +kernel
theorem dX8_offer_99 : decode cX8_offer 99 = .ok (.iload_n 3, 1) := by decide +kernel
theorem dX8_offer_100 : decode cX8_offer 100 = .ok (.invokevirtual 177, 3) := by decide +kernel
theorem dX8_offer_103 : decode cX8_offer 103 = .ok (.iload 4, 2) := by decide +kernel
theorem dX8_offer_105 : decode cX8_offer 105 = .ok (.ireturn, 1) := by decide +kernel
theorem dX8_setDeposit_0 : decode cX8_setDeposit 0 = .ok (.iload_n 1, 1) := by decide +kernel
theorem dX8_setDeposit_1 : decode cX8_setDeposit 1 = .ok (.invokestatic 164, 3) := by decide +kernel
theorem dX8_setDeposit_4 : decode cX8_setDeposit 4 = .ok (.invokestatic 103, 3) := by decide +kernel
theorem dX8_setDeposit_7 : decode cX8_setDeposit 7 = .ok (.iload_n 2, 1) := by decide +kernel
theorem dX8_setDeposit_8 : decode cX8_setDeposit 8 = .ok (.iconst 0, 1) := by decide +kernel
theorem dX8_setDeposit_9 : decode cX8_setDeposit 9 = .ok (.ldc 181, 2) := by decide +kernel
theorem dX8_setDeposit_11 : decode cX8_setDeposit 11 = .ok (.invokestatic 49, 3) := by decide +kernel
theorem dX8_setDeposit_14 : decode cX8_setDeposit 14 = .ok (.invokestatic 53, 3) := by decide +kernel
theorem dX8_setDeposit_17 : decode cX8_setDeposit 17 = .ok (.aload_n 0, 1) := by decide +kernel
theorem dX8_setDeposit_18 : decode cX8_setDeposit 18 = .ok (.getfield 26, 3) := by decide +kernel
theorem dX8_setDeposit_21 : decode cX8_setDeposit 21 = .ok (.invokevirtual 168, 3) := by decide +kernel
theorem dX8_setDeposit_24 : decode cX8_setDeposit 24 = .ok (.ifCond .eq 21, 3) := by decide +kernel
theorem dX8_setDeposit_27 : decode cX8_setDeposit 27 = .ok (.aload_n 0, 1) := by decide +kernel
theorem dX8_setDeposit_28 : decode cX8_setDeposit 28 = .ok (.getfield 26, 3) := by decide +kernel
theorem dX8_setDeposit_31 : decode cX8_setDeposit 31 = .ok (.getfield 148, 3) := by decide +kernel
theorem dX8_setDeposit_34 : decode cX8_setDeposit 34 = .ok (.iload_n 1, 1) := by decide +kernel
theorem dX8_setDeposit_35 : decode cX8_setDeposit 35 = .ok (.invokevirtual 171, 3) := by decide +kernel
theorem dX8_setDeposit_38 : decode cX8_setDeposit 38 = .ok (.ifCond .ne 7, 3) := by decide +kernel
theorem dX8_setDeposit_41 : decode cX8_setDeposit 41 = .ok (.iconst 1, 1) := by decide +kernel
theorem dX8_setDeposit_42 : decode cX8_setDeposit 42 = .ok (.goto 4, 3) := by decide +kernel
theorem dX8_setDeposit_45 : decode cX8_setDeposit 45 = .ok (.iconst 0, 1) := by decide +kernel
theorem dX8_setDeposit_46 : decode cX8_setDeposit 46 = .ok (.invokestatic 37, 3) := by decide +kernel
theorem dX8_setDeposit_49 : decode cX8_setDeposit 49 = .ok (.aload_n 0, 1) := by decide +kernel
theorem dX8_setDeposit_50 : decode cX8_setDeposit 50 = .ok (.getfield 19, 3) := by decide +kernel
theorem dX8_setDeposit_53 : decode cX8_setDeposit 53 = .ok (.aload_n 0, 1) := by decide +kernel
theorem dX8_setDeposit_54 : decode cX8_setDeposit 54 = .ok (.getfield 26, 3) := by decide +kernel
theorem dX8_setDeposit_57 : decode cX8_setDeposit 57 = .ok (.invokevirtual 60, 3) := by decide +kernel
theorem dX8_setDeposit_60 : decode cX8_setDeposit 60 = .ok (.aload_n 0, 1) := by decide +kernel
theorem dX8_setDeposit_61 : decode cX8_setDeposit 61 = .ok (.getfield 26, 3) := by decide +kernel
theorem dX8_setDeposit_64 : decode cX8_setDeposit 64 = .ok (.getfield 148, 3) := by decide +kernel
theorem dX8_setDeposit_67 : decode cX8_setDeposit 67 = .ok (.getfield 182, 3) := by decide +kernel
theorem dX8_setDeposit_70 : decode cX8_setDeposit 70 = .ok (.iload_n 1, 1) := by decide +kernel
theorem dX8_setDeposit_71 : decode cX8_setDeposit 71 = .ok (.iaload, 1) := by decide +kernel
theorem dX8_setDeposit_72 : decode cX8_setDeposit 72 = .ok (.istore_n 3, 1) := by decide +kernel
theorem dX8_setDeposit_73 : decode cX8_setDeposit 73 = .ok (.aload_n 0, 1) := by decide +kernel
theorem dX8_setDeposit_74 : decode cX8_setDeposit 74 = .ok (.getfield 26, 3) := by decide +kernel
theorem dX8_setDeposit_77 : decode cX8_setDeposit 77 = .ok (.getfield 148, 3) := by decide +kernel
theorem dX8_setDeposit_80 : decode cX8_setDeposit 80 = .ok (.getfield 182, 3) := by decide +kernel
theorem dX8_setDeposit_83 : decode cX8_setDeposit 83 = .ok (.iload_n 1, 1) := by decide +kernel
theorem dX8_setDeposit_84 : decode cX8_setDeposit 84 = .ok (.iload_n 2, 1) := by decide +kernel
theorem dX8_setDeposit_85 : decode cX8_setDeposit 85 = .ok (.iastore, 1) := by decide +kernel
theorem dX8_setDeposit_86 : decode cX8_setDeposit 86 = .ok (.iload_n 3, 1) := by decide +kernel
theorem dX8_setDeposit_87 : decode cX8_setDeposit 87 = .ok (.ireturn, 1) := by decide +kernel
theorem dX8_seal_0 : decode cX8_seal 0 = .ok (.iload_n 1, 1) := by decide +kernel
theorem dX8_seal_1 : decode cX8_seal 1 = .ok (.invokestatic 164, 3) := by decide +kernel
theorem dX8_seal_4 : decode cX8_seal 4 = .ok (.invokestatic 103, 3) := by decide +kernel
theorem dX8_seal_7 : decode cX8_seal 7 = .ok (.aload_n 0, 1) := by decide +kernel
theorem dX8_seal_8 : decode cX8_seal 8 = .ok (.getfield 26, 3) := by decide +kernel
theorem dX8_seal_11 : decode cX8_seal 11 = .ok (.invokevirtual 168, 3) := by decide +kernel
theorem dX8_seal_14 : decode cX8_seal 14 = .ok (.ifCond .eq 21, 3) := by decide +kernel
theorem dX8_seal_17 : decode cX8_seal 17 = .ok (.aload_n 0, 1) := by decide +kernel
theorem dX8_seal_18 : decode cX8_seal 18 = .ok (.getfield 26, 3) := by decide +kernel
theorem dX8_seal_21 : decode cX8_seal 21 = .ok (.getfield 148, 3) := by decide +kernel
theorem dX8_seal_24 : decode cX8_seal 24 = .ok (.iload_n 1, 1) := by decide +kernel
theorem dX8_seal_25 : decode cX8_seal 25 = .ok (.invokevirtual 171, 3) := by decide +kernel
theorem dX8_seal_28 : decode cX8_seal 28 = .ok (.ifCond .ne 7, 3) := by decide +kernel
theorem dX8_seal_31 : decode cX8_seal 31 = .ok (.iconst 1, 1) := by decide +kernel
theorem dX8_seal_32 : decode cX8_seal 32 = .ok (.goto 4, 3) := by decide +kernel
theorem dX8_seal_35 : decode cX8_seal 35 = .ok (.iconst 0, 1) := by decide +kernel
theorem dX8_seal_36 : decode cX8_seal 36 = .ok (.invokestatic 37, 3) := by decide +kernel
theorem dX8_seal_39 : decode cX8_seal 39 = .ok (.aload_n 0, 1) := by decide +kernel
theorem dX8_seal_40 : decode cX8_seal 40 = .ok (.getfield 19, 3) := by decide +kernel
theorem dX8_seal_43 : decode cX8_seal 43 = .ok (.aload_n 0, 1) := by decide +kernel
theorem dX8_seal_44 : decode cX8_seal 44 = .ok (.getfield 26, 3) := by decide +kernel
theorem dX8_seal_47 : decode cX8_seal 47 = .ok (.invokevirtual 60, 3) := by decide +kernel
theorem dX8_seal_50 : decode cX8_seal 50 = .ok (.aload_n 0, 1) := by decide +kernel
theorem dX8_seal_51 : decode cX8_seal 51 = .ok (.getfield 26, 3) := by decide +kernel
theorem dX8_seal_54 : decode cX8_seal 54 = .ok (.getfield 148, 3) := by decide +kernel
theorem dX8_seal_57 : decode cX8_seal 57 = .ok (.iload_n 1, 1) := by decide +kernel
theorem dX8_seal_58 : decode cX8_seal 58 = .ok (.invokevirtual 185, 3) := by decide +kernel
theorem dX8_seal_61 : decode cX8_seal 61 = .ok (.ireturn, 1) := by decide +kernel
theorem dX8_withdraw_0 : decode cX8_withdraw 0 = .ok (.iload_n 1, 1) := by decide +kernel
theorem dX8_withdraw_1 : decode cX8_withdraw 1 = .ok (.invokestatic 164, 3) := by decide +kernel
theorem dX8_withdraw_4 : decode cX8_withdraw 4 = .ok (.invokestatic 103, 3) := by decide +kernel
theorem dX8_withdraw_7 : decode cX8_withdraw 7 = .ok (.aload_n 0, 1) := by decide +kernel
theorem dX8_withdraw_8 : decode cX8_withdraw 8 = .ok (.getfield 26, 3) := by decide +kernel
theorem dX8_withdraw_11 : decode cX8_withdraw 11 = .ok (.invokevirtual 168, 3) := by decide +kernel
theorem dX8_withdraw_14 : decode cX8_withdraw 14 = .ok (.ifCond .eq 21, 3) := by decide +kernel
theorem dX8_withdraw_17 : decode cX8_withdraw 17 = .ok (.aload_n 0, 1) := by decide +kernel
theorem dX8_withdraw_18 : decode cX8_withdraw 18 = .ok (.getfield 26, 3) := by decide +kernel
theorem dX8_withdraw_21 : decode cX8_withdraw 21 = .ok (.getfield 148, 3) := by decide +kernel
theorem dX8_withdraw_24 : decode cX8_withdraw 24 = .ok (.iload_n 1, 1) := by decide +kernel
theorem dX8_withdraw_25 : decode cX8_withdraw 25 = .ok (.invokevirtual 171, 3) := by decide +kernel
theorem dX8_withdraw_28 : decode cX8_withdraw 28 = .ok (.ifCond .eq 7, 3) := by decide +kernel
theorem dX8_withdraw_31 : decode cX8_withdraw 31 = .ok (.iconst 1, 1) := by decide +kernel
theorem dX8_withdraw_32 : decode cX8_withdraw 32 = .ok (.goto 4, 3) := by decide +kernel
theorem dX8_withdraw_35 : decode cX8_withdraw 35 = .ok (.iconst 0, 1) := by decide +kernel
theorem dX8_withdraw_36 : decode cX8_withdraw 36 = .ok (.invokestatic 37, 3) := by decide +kernel
theorem dX8_withdraw_39 : decode cX8_withdraw 39 = .ok (.aload_n 0, 1) := by decide +kernel
theorem dX8_withdraw_40 : decode cX8_withdraw 40 = .ok (.getfield 19, 3) := by decide +kernel
theorem dX8_withdraw_43 : decode cX8_withdraw 43 = .ok (.aload_n 0, 1) := by decide +kernel
theorem dX8_withdraw_44 : decode cX8_withdraw 44 = .ok (.getfield 26, 3) := by decide +kernel
theorem dX8_withdraw_47 : decode cX8_withdraw 47 = .ok (.invokevirtual 60, 3) := by decide +kernel
theorem dX8_withdraw_50 : decode cX8_withdraw 50 = .ok (.aload_n 0, 1) := by decide +kernel
theorem dX8_withdraw_51 : decode cX8_withdraw 51 = .ok (.getfield 26, 3) := by decide +kernel
theorem dX8_withdraw_54 : decode cX8_withdraw 54 = .ok (.getfield 148, 3) := by decide +kernel
theorem dX8_withdraw_57 : decode cX8_withdraw 57 = .ok (.iload_n 1, 1) := by decide +kernel
theorem dX8_withdraw_58 : decode cX8_withdraw 58 = .ok (.invokevirtual 188, 3) := by decide +kernel
theorem dX8_withdraw_61 : decode cX8_withdraw 61 = .ok (.return_, 1) := by decide +kernel
theorem dX8_open_0 : decode cX8_open 0 = .ok (.aload_n 0, 1) := by decide +kernel
theorem dX8_open_1 : decode cX8_open 1 = .ok (.getfield 26, 3) := by decide +kernel
theorem dX8_open_4 : decode cX8_open 4 = .ok (.invokevirtual 168, 3) := by decide +kernel
theorem dX8_open_7 : decode cX8_open 7 = .ok (.invokestatic 37, 3) := by decide +kernel
theorem dX8_open_10 : decode cX8_open 10 = .ok (.aload_n 0, 1) := by decide +kernel
theorem dX8_open_11 : decode cX8_open 11 = .ok (.getfield 19, 3) := by decide +kernel
theorem dX8_open_14 : decode cX8_open 14 = .ok (.aload_n 0, 1) := by decide +kernel
theorem dX8_open_15 : decode cX8_open 15 = .ok (.getfield 26, 3) := by decide +kernel
theorem dX8_open_18 : decode cX8_open 18 = .ok (.invokevirtual 60, 3) := by decide +kernel
theorem dX8_open_21 : decode cX8_open 21 = .ok (.aload_n 0, 1) := by decide +kernel
theorem dX8_open_22 : decode cX8_open 22 = .ok (.getfield 26, 3) := by decide +kernel
theorem dX8_open_25 : decode cX8_open 25 = .ok (.aload_n 0, 1) := by decide +kernel
theorem dX8_open_26 : decode cX8_open 26 = .ok (.getfield 26, 3) := by decide +kernel
theorem dX8_open_29 : decode cX8_open 29 = .ok (.getfield 67, 3) := by decide +kernel
theorem dX8_open_32 : decode cX8_open 32 = .ok (.iconst 1, 1) := by decide +kernel
theorem dX8_open_33 : decode cX8_open 33 = .ok (.if_icmp .ne 7, 3) := by decide +kernel
theorem dX8_open_36 : decode cX8_open 36 = .ok (.iconst 2, 1) := by decide +kernel
theorem dX8_open_37 : decode cX8_open 37 = .ok (.goto 5, 3) := by decide +kernel
theorem dX8_open_40 : decode cX8_open 40 = .ok (.bipush 7, 2) := by decide +kernel
theorem dX8_open_42 : decode cX8_open 42 = .ok (.putfield 67, 3) := by decide +kernel
theorem dX8_open_45 : decode cX8_open 45 = .ok (.aload_n 0, 1) := by decide +kernel
theorem dX8_open_46 : decode cX8_open 46 = .ok (.getfield 26, 3) := by decide +kernel
theorem dX8_open_49 : decode cX8_open 49 = .ok (.getfield 148, 3) := by decide +kernel
theorem dX8_open_52 : decode cX8_open 52 = .ok (.aload_n 0, 1) := by decide +kernel
theorem dX8_open_53 : decode cX8_open 53 = .ok (.getfield 26, 3) := by decide +kernel
theorem dX8_open_56 : decode cX8_open 56 = .ok (.getfield 83, 3) := by decide +kernel
theorem dX8_open_59 : decode cX8_open 59 = .ok (.invokevirtual 191, 3) := by decide +kernel
theorem dX8_open_62 : decode cX8_open 62 = .ok (.ireturn, 1) := by decide +kernel
theorem dX8_problem_0 : decode cX8_problem 0 = .ok (.iload_n 1, 1) := by decide +kernel
theorem dX8_problem_1 : decode cX8_problem 1 = .ok (.invokestatic 164, 3) := by decide +kernel
theorem dX8_problem_4 : decode cX8_problem 4 = .ok (.invokestatic 103, 3) := by decide +kernel
theorem dX8_problem_7 : decode cX8_problem 7 = .ok (.aload_n 0, 1) := by decide +kernel
theorem dX8_problem_8 : decode cX8_problem 8 = .ok (.getfield 26, 3) := by decide +kernel
theorem dX8_problem_11 : decode cX8_problem 11 = .ok (.invokevirtual 195, 3) := by decide +kernel
theorem dX8_problem_14 : decode cX8_problem 14 = .ok (.invokestatic 37, 3) := by decide +kernel
theorem dX8_problem_17 : decode cX8_problem 17 = .ok (.aload_n 0, 1) := by decide +kernel
theorem dX8_problem_18 : decode cX8_problem 18 = .ok (.getfield 26, 3) := by decide +kernel
theorem dX8_problem_21 : decode cX8_problem 21 = .ok (.getfield 148, 3) := by decide +kernel
theorem dX8_problem_24 : decode cX8_problem 24 = .ok (.iload_n 1, 1) := by decide +kernel
theorem dX8_problem_25 : decode cX8_problem 25 = .ok (.aload_n 0, 1) := by decide +kernel
theorem dX8_problem_26 : decode cX8_problem 26 = .ok (.getfield 26, 3) := by decide +kernel
theorem dX8_problem_29 : decode cX8_problem 29 = .ok (.getfield 83, 3) := by decide +kernel
theorem dX8_problem_32 : decode cX8_problem 32 = .ok (.invokevirtual 198, 3) := by decide +kernel
theorem dX8_problem_35 : decode cX8_problem 35 = .ok (.ireturn, 1) := by decide +kernel
theorem dX8_value_0 : decode cX8_value 0 = .ok (.iload_n 1, 1) := by decide +kernel
theorem dX8_value_1 : decode cX8_value 1 = .ok (.invokestatic 164, 3) := by decide +kernel
theorem dX8_value_4 : decode cX8_value 4 = .ok (.invokestatic 103, 3) := by decide +kernel
theorem dX8_value_7 : decode cX8_value 7 = .ok (.aload_n 0, 1) := by decide +kernel
theorem dX8_value_8 : decode cX8_value 8 = .ok (.getfield 26, 3) := by decide +kernel
theorem dX8_value_11 : decode cX8_value 11 = .ok (.invokevirtual 195, 3) := by decide +kernel
theorem dX8_value_14 : decode cX8_value 14 = .ok (.invokestatic 37, 3) := by decide +kernel
theorem dX8_value_17 : decode cX8_value 17 = .ok (.aload_n 0, 1) := by decide +kernel
theorem dX8_value_18 : decode cX8_value 18 = .ok (.getfield 26, 3) := by decide +kernel
theorem dX8_value_21 : decode cX8_value 21 = .ok (.getfield 148, 3) := by decide +kernel
theorem dX8_value_24 : decode cX8_value 24 = .ok (.iload_n 1, 1) := by decide +kernel
theorem dX8_value_25 : decode cX8_value 25 = .ok (.invokevirtual 202, 3) := by decide +kernel
theorem dX8_value_28 : decode cX8_value 28 = .ok (.lreturn, 1) := by decide +kernel
theorem dX8_rank_0 : decode cX8_rank 0 = .ok (.iload_n 1, 1) := by decide +kernel
theorem dX8_rank_1 : decode cX8_rank 1 = .ok (.invokestatic 164, 3) := by decide +kernel
theorem dX8_rank_4 : decode cX8_rank 4 = .ok (.invokestatic 103, 3) := by decide +kernel
theorem dX8_rank_7 : decode cX8_rank 7 = .ok (.aload_n 0, 1) := by decide +kernel
theorem dX8_rank_8 : decode cX8_rank 8 = .ok (.getfield 26, 3) := by decide +kernel
theorem dX8_rank_11 : decode cX8_rank 11 = .ok (.invokevirtual 195, 3) := by decide +kernel
theorem dX8_rank_14 : decode cX8_rank 14 = .ok (.invokestatic 37, 3) := by decide +kernel
theorem dX8_rank_17 : decode cX8_rank 17 = .ok (.aload_n 0, 1) := by decide +kernel
theorem dX8_rank_18 : decode cX8_rank 18 = .ok (.getfield 26, 3) := by decide +kernel
theorem dX8_rank_21 : decode cX8_rank 21 = .ok (.getfield 148, 3) := by decide +kernel
theorem dX8_rank_24 : decode cX8_rank 24 = .ok (.iload_n 1, 1) := by decide +kernel
theorem dX8_rank_25 : decode cX8_rank 25 = .ok (.aload_n 0, 1) := by decide +kernel
theorem dX8_rank_26 : decode cX8_rank 26 = .ok (.getfield 26, 3) := by decide +kernel
theorem dX8_rank_29 : decode cX8_rank 29 = .ok (.getfield 83, 3) := by decide +kernel
theorem dX8_rank_32 : decode cX8_rank 32 = .ok (.invokevirtual 205, 3) := by decide +kernel
theorem dX8_rank_35 : decode cX8_rank 35 = .ok (.ireturn, 1) := by decide +kernel
theorem dX8_turningPoint_0 : decode cX8_turningPoint 0 = .ok (.aload_n 0, 1) := by decide +kernel
theorem dX8_turningPoint_1 : decode cX8_turningPoint 1 = .ok (.iload_n 1, 1) := by decide +kernel
theorem dX8_turningPoint_2 : decode cX8_turningPoint 2 = .ok (.invokevirtual 161, 3) := by decide +kernel
theorem dX8_turningPoint_5 : decode cX8_turningPoint 5 = .ok (.invokestatic 103, 3) := by decide +kernel
theorem dX8_turningPoint_8 : decode cX8_turningPoint 8 = .ok (.aload_n 0, 1) := by decide +kernel
theorem dX8_turningPoint_9 : decode cX8_turningPoint 9 = .ok (.getfield 26, 3) := by decide +kernel
theorem dX8_turningPoint_12 : decode cX8_turningPoint 12 = .ok (.invokevirtual 195, 3) := by decide +kernel
theorem dX8_turningPoint_15 : decode cX8_turningPoint 15 = .ok (.invokestatic 37, 3) := by decide +kernel
theorem dX8_turningPoint_18 : decode cX8_turningPoint 18 = .ok (.aload_n 0, 1) := by decide +kernel
theorem dX8_turningPoint_19 : decode cX8_turningPoint 19 = .ok (.getfield 26, 3) := by decide +kernel
theorem dX8_turningPoint_22 : decode cX8_turningPoint 22 = .ok (.getfield 148, 3) := by decide +kernel
theorem dX8_turningPoint_25 : decode cX8_turningPoint 25 = .ok (.aload_n 0, 1) := by decide +kernel
theorem dX8_turningPoint_26 : decode cX8_turningPoint 26 = .ok (.getfield 26, 3) := by decide +kernel
theorem dX8_turningPoint_29 : decode cX8_turningPoint 29 = .ok (.getfield 83, 3) := by decide +kernel
theorem dX8_turningPoint_32 : decode cX8_turningPoint 32 = .ok (.invokevirtual 208, 3) := by decide +kernel
theorem dX8_turningPoint_35 : decode cX8_turningPoint 35 = .ok (.istore_n 2, 1) := by decide +kernel
theorem dX8_turningPoint_36 : decode cX8_turningPoint 36 = .ok (.iload_n 2, 1) := by decide +kernel
theorem dX8_turningPoint_37 : decode cX8_turningPoint 37 = .ok (.iconst (-1), 1) := by decide +kernel
theorem dX8_turningPoint_38 : decode cX8_turningPoint 38 = .ok (.if_icmp .eq 7, 3) := by decide +kernel
theorem dX8_turningPoint_41 : decode cX8_turningPoint 41 = .ok (.iconst 1, 1) := by decide +kernel
theorem dX8_turningPoint_42 : decode cX8_turningPoint 42 = .ok (.goto 4, 3) := by decide +kernel
theorem dX8_turningPoint_45 : decode cX8_turningPoint 45 = .ok (.iconst 0, 1) := by decide +kernel
theorem dX8_turningPoint_46 : decode cX8_turningPoint 46 = .ok (.invokestatic 211, 3) := by decide +kernel
theorem dX8_turningPoint_49 : decode cX8_turningPoint 49 = .ok (.aload_n 0, 1) := by decide +kernel
theorem dX8_turningPoint_50 : decode cX8_turningPoint 50 = .ok (.getfield 26, 3) := by decide +kernel
theorem dX8_turningPoint_53 : decode cX8_turningPoint 53 = .ok (.getfield 148, 3) := by decide +kernel
theorem dX8_turningPoint_56 : decode cX8_turningPoint 56 = .ok (.iload_n 2, 1) := by decide +kernel
theorem dX8_turningPoint_57 : decode cX8_turningPoint 57 = .ok (.iload_n 1, 1) := by decide +kernel
theorem dX8_turningPoint_58 : decode cX8_turningPoint 58 = .ok (.aload_n 0, 1) := by decide +kernel
theorem dX8_turningPoint_59 : decode cX8_turningPoint 59 = .ok (.getfield 26, 3) := by decide +kernel
theorem dX8_turningPoint_62 : decode cX8_turningPoint 62 = .ok (.getfield 83, 3) := by decide +kernel
theorem dX8_turningPoint_65 : decode cX8_turningPoint 65 = .ok (.invokevirtual 214, 3) := by decide +kernel
theorem dX8_turningPoint_68 : decode cX8_turningPoint 68 = .ok (.istore_n 3, 1) := by decide +kernel
theorem dX8_turningPoint_69 : decode cX8_turningPoint 69 = .ok (.iload_n 3, 1) := by decide +kernel
theorem dX8_turningPoint_70 : decode cX8_turningPoint 70 = .ok (.ifCond .eq 7, 3) := by decide +kernel
theorem dX8_turningPoint_73 : decode cX8_turningPoint 73 = .ok (.iconst 1, 1) := by decide +kernel
theorem dX8_turningPoint_74 : decode cX8_turningPoint 74 = .ok (.goto 4, 3) := by decide +kernel
theorem dX8_turningPoint_77 : decode cX8_turningPoint 77 = .ok (.iconst 0, 1) := by decide +kernel
theorem dX8_turningPoint_78 : decode cX8_turningPoint 78 = .ok (.invokestatic 211, 3) := by decide +kernel
theorem dX8_turningPoint_81 : decode cX8_turningPoint 81 = .ok (.iload_n 3, 1) := by decide +kernel
theorem dX8_turningPoint_82 : decode cX8_turningPoint 82 = .ok (.ireturn, 1) := by decide +kernel
theorem dX8_leastWinningRate_0 : decode cX8_leastWinningRate 0 = .ok (.iload_n 1, 1) := by decide +kernel
theorem dX8_leastWinningRate_1 : decode cX8_leastWinningRate 1 = .ok (.invokestatic 164, 3) := by decide +kernel
theorem dX8_leastWinningRate_4 : decode cX8_leastWinningRate 4 = .ok (.ifCond .eq 15, 3) := by decide +kernel
theorem dX8_leastWinningRate_7 : decode cX8_leastWinningRate 7 = .ok (.aload_n 0, 1) := by decide +kernel
theorem dX8_leastWinningRate_8 : decode cX8_leastWinningRate 8 = .ok (.iload_n 2, 1) := by decide +kernel
theorem dX8_leastWinningRate_9 : decode cX8_leastWinningRate 9 = .ok (.invokevirtual 161, 3) := by decide +kernel
theorem dX8_leastWinningRate_12 : decode cX8_leastWinningRate 12 = .ok (.ifCond .eq 7, 3) := by decide +kernel
theorem dX8_leastWinningRate_15 : decode cX8_leastWinningRate 15 = .ok (.iconst 1, 1) := by decide +kernel
theorem dX8_leastWinningRate_16 : decode cX8_leastWinningRate 16 = .ok (.goto 4, 3) := by decide +kernel
theorem dX8_leastWinningRate_19 : decode cX8_leastWinningRate 19 = .ok (.iconst 0, 1) := by decide +kernel
theorem dX8_leastWinningRate_20 : decode cX8_leastWinningRate 20 = .ok (.invokestatic 103, 3) := by decide +kernel
theorem dX8_leastWinningRate_23 : decode cX8_leastWinningRate 23 = .ok (.aload_n 0, 1) := by decide +kernel
theorem dX8_leastWinningRate_24 : decode cX8_leastWinningRate 24 = .ok (.getfield 26, 3) := by decide +kernel
theorem dX8_leastWinningRate_27 : decode cX8_leastWinningRate 27 = .ok (.invokevirtual 195, 3) := by decide +kernel
theorem dX8_leastWinningRate_30 : decode cX8_leastWinningRate 30 = .ok (.invokestatic 37, 3) := by decide +kernel
theorem dX8_leastWinningRate_33 : decode cX8_leastWinningRate 33 = .ok (.aload_n 0, 1) := by decide +kernel
theorem dX8_leastWinningRate_34 : decode cX8_leastWinningRate 34 = .ok (.getfield 26, 3) := by decide +kernel
theorem dX8_leastWinningRate_37 : decode cX8_leastWinningRate 37 = .ok (.getfield 148, 3) := by decide +kernel
theorem dX8_leastWinningRate_40 : decode cX8_leastWinningRate 40 = .ok (.iload_n 1, 1) := by decide +kernel
theorem dX8_leastWinningRate_41 : decode cX8_leastWinningRate 41 = .ok (.iload_n 2, 1) := by decide +kernel
theorem dX8_leastWinningRate_42 : decode cX8_leastWinningRate 42 = .ok (.aload_n 0, 1) := by decide +kernel
theorem dX8_leastWinningRate_43 : decode cX8_leastWinningRate 43 = .ok (.getfield 26, 3) := by decide +kernel
theorem dX8_leastWinningRate_46 : decode cX8_leastWinningRate 46 = .ok (.getfield 83, 3) := by decide +kernel
theorem dX8_leastWinningRate_49 : decode cX8_leastWinningRate 49 = .ok (.invokevirtual 218, 3) := by decide +kernel
theorem dX8_leastWinningRate_52 : decode cX8_leastWinningRate 52 = .ok (.istore_n 3, 1) := by decide +kernel
theorem dX8_leastWinningRate_53 : decode cX8_leastWinningRate 53 = .ok (.iload_n 3, 1) := by decide +kernel
theorem dX8_leastWinningRate_54 : decode cX8_leastWinningRate 54 = .ok (.iconst (-1), 1) := by decide +kernel
theorem dX8_leastWinningRate_55 : decode cX8_leastWinningRate 55 = .ok (.if_icmp .eq 7, 3) := by decide +kernel
theorem dX8_leastWinningRate_58 : decode cX8_leastWinningRate 58 = .ok (.iconst 1, 1) := by decide +kernel
theorem dX8_leastWinningRate_59 : decode cX8_leastWinningRate 59 = .ok (.goto 4, 3) := by decide +kernel
theorem dX8_leastWinningRate_62 : decode cX8_leastWinningRate 62 = .ok (.iconst 0, 1) := by decide +kernel
theorem dX8_leastWinningRate_63 : decode cX8_leastWinningRate 63 = .ok (.invokestatic 211, 3) := by decide +kernel
theorem dX8_leastWinningRate_66 : decode cX8_leastWinningRate 66 = .ok (.iload_n 3, 1) := by decide +kernel
theorem dX8_leastWinningRate_67 : decode cX8_leastWinningRate 67 = .ok (.ireturn, 1) := by decide +kernel
theorem dX8_award_0 : decode cX8_award 0 = .ok (.aload_n 0, 1) := by decide +kernel
theorem dX8_award_1 : decode cX8_award 1 = .ok (.getfield 26, 3) := by decide +kernel
theorem dX8_award_4 : decode cX8_award 4 = .ok (.getfield 67, 3) := by decide +kernel
theorem dX8_award_7 : decode cX8_award 7 = .ok (.iconst 2, 1) := by decide +kernel
theorem dX8_award_8 : decode cX8_award 8 = .ok (.if_icmp .eq 15, 3) := by decide +kernel
theorem dX8_award_11 : decode cX8_award 11 = .ok (.aload_n 0, 1) := by decide +kernel
theorem dX8_award_12 : decode cX8_award 12 = .ok (.getfield 26, 3) := by decide +kernel
theorem dX8_award_15 : decode cX8_award 15 = .ok (.getfield 67, 3) := by decide +kernel
theorem dX8_award_18 : decode cX8_award 18 = .ok (.bipush 7, 2) := by decide +kernel
theorem dX8_award_20 : decode cX8_award 20 = .ok (.if_icmp .ne 7, 3) := by decide +kernel
theorem dX8_award_23 : decode cX8_award 23 = .ok (.iconst 1, 1) := by decide +kernel
theorem dX8_award_24 : decode cX8_award 24 = .ok (.goto 4, 3) := by decide +kernel
theorem dX8_award_27 : decode cX8_award 27 = .ok (.iconst 0, 1) := by decide +kernel
theorem dX8_award_28 : decode cX8_award 28 = .ok (.invokestatic 37, 3) := by decide +kernel
theorem dX8_award_31 : decode cX8_award 31 = .ok (.aload_n 0, 1) := by decide +kernel
theorem dX8_award_32 : decode cX8_award 32 = .ok (.getfield 26, 3) := by decide +kernel
theorem dX8_award_35 : decode cX8_award 35 = .ok (.getfield 148, 3) := by decide +kernel
theorem dX8_award_38 : decode cX8_award 38 = .ok (.aload_n 0, 1) := by decide +kernel
theorem dX8_award_39 : decode cX8_award 39 = .ok (.getfield 26, 3) := by decide +kernel
theorem dX8_award_42 : decode cX8_award 42 = .ok (.getfield 83, 3) := by decide +kernel
theorem dX8_award_45 : decode cX8_award 45 = .ok (.invokevirtual 208, 3) := by decide +kernel
theorem dX8_award_48 : decode cX8_award 48 = .ok (.istore_n 1, 1) := by decide +kernel
theorem dX8_award_49 : decode cX8_award 49 = .ok (.iload_n 1, 1) := by decide +kernel
theorem dX8_award_50 : decode cX8_award 50 = .ok (.iconst (-1), 1) := by decide +kernel
theorem dX8_award_51 : decode cX8_award 51 = .ok (.if_icmp .eq 7, 3) := by decide +kernel
theorem dX8_award_54 : decode cX8_award 54 = .ok (.iconst 1, 1) := by decide +kernel
theorem dX8_award_55 : decode cX8_award 55 = .ok (.goto 4, 3) := by decide +kernel
theorem dX8_award_58 : decode cX8_award 58 = .ok (.iconst 0, 1) := by decide +kernel
theorem dX8_award_59 : decode cX8_award 59 = .ok (.invokestatic 211, 3) := by decide +kernel
theorem dX8_award_62 : decode cX8_award 62 = .ok (.aload_n 0, 1) := by decide +kernel
theorem dX8_award_63 : decode cX8_award 63 = .ok (.getfield 19, 3) := by decide +kernel
theorem dX8_award_66 : decode cX8_award 66 = .ok (.aload_n 0, 1) := by decide +kernel
theorem dX8_award_67 : decode cX8_award 67 = .ok (.getfield 26, 3) := by decide +kernel
theorem dX8_award_70 : decode cX8_award 70 = .ok (.invokevirtual 60, 3) := by decide +kernel
theorem dX8_award_73 : decode cX8_award 73 = .ok (.aload_n 0, 1) := by decide +kernel
theorem dX8_award_74 : decode cX8_award 74 = .ok (.getfield 26, 3) := by decide +kernel
theorem dX8_award_77 : decode cX8_award 77 = .ok (.getfield 67, 3) := by decide +kernel
theorem dX8_award_80 : decode cX8_award 80 = .ok (.iconst 2, 1) := by decide +kernel
theorem dX8_award_81 : decode cX8_award 81 = .ok (.if_icmp .ne 14, 3) := by decide +kernel
theorem dX8_award_84 : decode cX8_award 84 = .ok (.aload_n 0, 1) := by decide +kernel
theorem dX8_award_85 : decode cX8_award 85 = .ok (.getfield 26, 3) := by decide +kernel
theorem dX8_award_88 : decode cX8_award 88 = .ok (.iload_n 1, 1) := by decide +kernel
theorem dX8_award_89 : decode cX8_award 89 = .ok (.invokevirtual 221, 3) := by decide +kernel
theorem dX8_award_92 : decode cX8_award 92 = .ok (.goto 12, 3) := by decide +kernel
theorem dX8_award_95 : decode cX8_award 95 = .ok (.aload_n 0, 1) := by decide +kernel
theorem dX8_award_96 : decode cX8_award 96 = .ok (.getfield 26, 3) := by decide +kernel
theorem dX8_award_99 : decode cX8_award 99 = .ok (.bipush 8, 2) := by decide +kernel
theorem dX8_award_101 : decode cX8_award 101 = .ok (.putfield 67, 3) := by decide +kernel
theorem dX8_award_104 : decode cX8_award 104 = .ok (.iload_n 1, 1) := by decide +kernel
theorem dX8_award_105 : decode cX8_award 105 = .ok (.ireturn, 1) := by decide +kernel
theorem dX8_setIndex_0 : decode cX8_setIndex 0 = .ok (.iload_n 1, 1) := by decide +kernel
theorem dX8_setIndex_1 : decode cX8_setIndex 1 = .ok (.invokestatic 224, 3) := by decide +kernel
theorem dX8_setIndex_4 : decode cX8_setIndex 4 = .ok (.ifCond .eq 15, 3) := by decide +kernel
theorem dX8_setIndex_7 : decode cX8_setIndex 7 = .ok (.aload_n 0, 1) := by decide +kernel
theorem dX8_setIndex_8 : decode cX8_setIndex 8 = .ok (.iload_n 2, 1) := by decide +kernel
theorem dX8_setIndex_9 : decode cX8_setIndex 9 = .ok (.invokevirtual 161, 3) := by decide +kernel
theorem dX8_setIndex_12 : decode cX8_setIndex 12 = .ok (.ifCond .eq 7, 3) := by decide +kernel
theorem dX8_setIndex_15 : decode cX8_setIndex 15 = .ok (.iconst 1, 1) := by decide +kernel
theorem dX8_setIndex_16 : decode cX8_setIndex 16 = .ok (.goto 4, 3) := by decide +kernel
theorem dX8_setIndex_19 : decode cX8_setIndex 19 = .ok (.iconst 0, 1) := by decide +kernel
theorem dX8_setIndex_20 : decode cX8_setIndex 20 = .ok (.invokestatic 103, 3) := by decide +kernel
theorem dX8_setIndex_23 : decode cX8_setIndex 23 = .ok (.iload_n 3, 1) := by decide +kernel
theorem dX8_setIndex_24 : decode cX8_setIndex 24 = .ok (.iconst 1, 1) := by decide +kernel
theorem dX8_setIndex_25 : decode cX8_setIndex 25 = .ok (.sipush 10000, 3) := by decide +kernel
theorem dX8_setIndex_28 : decode cX8_setIndex 28 = .ok (.invokestatic 49, 3) := by decide +kernel
theorem dX8_setIndex_31 : decode cX8_setIndex 31 = .ok (.invokestatic 53, 3) := by decide +kernel
theorem dX8_setIndex_34 : decode cX8_setIndex 34 = .ok (.aload_n 0, 1) := by decide +kernel
theorem dX8_setIndex_35 : decode cX8_setIndex 35 = .ok (.getfield 26, 3) := by decide +kernel
theorem dX8_setIndex_38 : decode cX8_setIndex 38 = .ok (.getfield 67, 3) := by decide +kernel
theorem dX8_setIndex_41 : decode cX8_setIndex 41 = .ok (.iconst 3, 1) := by decide +kernel
theorem dX8_setIndex_42 : decode cX8_setIndex 42 = .ok (.if_icmp .ne 7, 3) := by decide +kernel
theorem dX8_setIndex_45 : decode cX8_setIndex 45 = .ok (.iconst 1, 1) := by decide +kernel
theorem dX8_setIndex_46 : decode cX8_setIndex 46 = .ok (.goto 4, 3) := by decide +kernel
theorem dX8_setIndex_49 : decode cX8_setIndex 49 = .ok (.iconst 0, 1) := by decide +kernel
theorem dX8_setIndex_50 : decode cX8_setIndex 50 = .ok (.invokestatic 37, 3) := by decide +kernel
theorem dX8_setIndex_53 : decode cX8_setIndex 53 = .ok (.aload_n 0, 1) := by decide +kernel
theorem dX8_setIndex_54 : decode cX8_setIndex 54 = .ok (.getfield 19, 3) := by decide +kernel
theorem dX8_setIndex_57 : decode cX8_setIndex 57 = .ok (.aload_n 0, 1) := by decide +kernel
theorem dX8_setIndex_58 : decode cX8_setIndex 58 = .ok (.getfield 26, 3) := by decide +kernel
theorem dX8_setIndex_61 : decode cX8_setIndex 61 = .ok (.invokevirtual 60, 3) := by decide +kernel
theorem dX8_setIndex_64 : decode cX8_setIndex 64 = .ok (.aload_n 0, 1) := by decide +kernel
theorem dX8_setIndex_65 : decode cX8_setIndex 65 = .ok (.getfield 26, 3) := by decide +kernel
theorem dX8_setIndex_68 : decode cX8_setIndex 68 = .ok (.getfield 227, 3) := by decide +kernel
theorem dX8_setIndex_71 : decode cX8_setIndex 71 = .ok (.iload_n 2, 1) := by decide +kernel
theorem dX8_setIndex_72 : decode cX8_setIndex 72 = .ok (.iload_n 1, 1) := by decide +kernel
theorem dX8_setIndex_73 : decode cX8_setIndex 73 = .ok (.iload_n 3, 1) := by decide +kernel
theorem dX8_setIndex_74 : decode cX8_setIndex 74 = .ok (.invokevirtual 231, 3) := by decide +kernel
theorem dX8_setIndex_77 : decode cX8_setIndex 77 = .ok (.return_, 1) := by decide +kernel
theorem dX8_rate_0 : decode cX8_rate 0 = .ok (.aload_n 0, 1) := by decide +kernel
theorem dX8_rate_1 : decode cX8_rate 1 = .ok (.iload_n 1, 1) := by decide +kernel
theorem dX8_rate_2 : decode cX8_rate 2 = .ok (.invokevirtual 161, 3) := by decide +kernel
theorem dX8_rate_5 : decode cX8_rate 5 = .ok (.ifCond .eq 14, 3) := by decide +kernel
theorem dX8_rate_8 : decode cX8_rate 8 = .ok (.iload_n 2, 1) := by decide +kernel
theorem dX8_rate_9 : decode cX8_rate 9 = .ok (.invokestatic 224, 3) := by decide +kernel
theorem dX8_rate_12 : decode cX8_rate 12 = .ok (.ifCond .eq 7, 3) := by decide +kernel
theorem dX8_rate_15 : decode cX8_rate 15 = .ok (.iconst 1, 1) := by decide +kernel
theorem dX8_rate_16 : decode cX8_rate 16 = .ok (.goto 4, 3) := by decide +kernel
theorem dX8_rate_19 : decode cX8_rate 19 = .ok (.iconst 0, 1) := by decide +kernel
theorem dX8_rate_20 : decode cX8_rate 20 = .ok (.invokestatic 103, 3) := by decide +kernel
theorem dX8_rate_23 : decode cX8_rate 23 = .ok (.aload_n 0, 1) := by decide +kernel
theorem dX8_rate_24 : decode cX8_rate 24 = .ok (.getfield 26, 3) := by decide +kernel
theorem dX8_rate_27 : decode cX8_rate 27 = .ok (.invokevirtual 236, 3) := by decide +kernel
theorem dX8_rate_30 : decode cX8_rate 30 = .ok (.invokestatic 37, 3) := by decide +kernel
theorem dX8_rate_33 : decode cX8_rate 33 = .ok (.aload_n 0, 1) := by decide +kernel
theorem dX8_rate_34 : decode cX8_rate 34 = .ok (.getfield 26, 3) := by decide +kernel
theorem dX8_rate_37 : decode cX8_rate 37 = .ok (.getfield 227, 3) := by decide +kernel
theorem dX8_rate_40 : decode cX8_rate 40 = .ok (.iload_n 1, 1) := by decide +kernel
theorem dX8_rate_41 : decode cX8_rate 41 = .ok (.iload_n 2, 1) := by decide +kernel
theorem dX8_rate_42 : decode cX8_rate 42 = .ok (.aload_n 0, 1) := by decide +kernel
theorem dX8_rate_43 : decode cX8_rate 43 = .ok (.getfield 26, 3) := by decide +kernel
theorem dX8_rate_46 : decode cX8_rate 46 = .ok (.getfield 83, 3) := by decide +kernel
theorem dX8_rate_49 : decode cX8_rate 49 = .ok (.invokevirtual 239, 3) := by decide +kernel
theorem dX8_rate_52 : decode cX8_rate 52 = .ok (.ireturn, 1) := by decide +kernel
theorem dX8_indexFor_0 : decode cX8_indexFor 0 = .ok (.aload_n 0, 1) := by decide +kernel
theorem dX8_indexFor_1 : decode cX8_indexFor 1 = .ok (.iload_n 1, 1) := by decide +kernel
theorem dX8_indexFor_2 : decode cX8_indexFor 2 = .ok (.invokevirtual 161, 3) := by decide +kernel
theorem dX8_indexFor_5 : decode cX8_indexFor 5 = .ok (.invokestatic 103, 3) := by decide +kernel
theorem dX8_indexFor_8 : decode cX8_indexFor 8 = .ok (.iload_n 2, 1) := by decide +kernel
theorem dX8_indexFor_9 : decode cX8_indexFor 9 = .ok (.iconst 0, 1) := by decide +kernel
theorem dX8_indexFor_10 : decode cX8_indexFor 10 = .ok (.ldc 167, 2) := by decide +kernel
theorem dX8_indexFor_12 : decode cX8_indexFor 12 = .ok (.invokestatic 49, 3) := by decide +kernel
theorem dX8_indexFor_15 : decode cX8_indexFor 15 = .ok (.invokestatic 53, 3) := by decide +kernel
theorem dX8_indexFor_18 : decode cX8_indexFor 18 = .ok (.aload_n 0, 1) := by decide +kernel
theorem dX8_indexFor_19 : decode cX8_indexFor 19 = .ok (.getfield 26, 3) := by decide +kernel
theorem dX8_indexFor_22 : decode cX8_indexFor 22 = .ok (.invokevirtual 236, 3) := by decide +kernel
theorem dX8_indexFor_25 : decode cX8_indexFor 25 = .ok (.invokestatic 37, 3) := by decide +kernel
theorem dX8_indexFor_28 : decode cX8_indexFor 28 = .ok (.aload_n 0, 1) := by decide +kernel
theorem dX8_indexFor_29 : decode cX8_indexFor 29 = .ok (.getfield 26, 3) := by decide +kernel
theorem dX8_indexFor_32 : decode cX8_indexFor 32 = .ok (.getfield 227, 3) := by decide +kernel
theorem dX8_indexFor_35 : decode cX8_indexFor 35 = .ok (.iload_n 1, 1) := by decide +kernel
theorem dX8_indexFor_36 : decode cX8_indexFor 36 = .ok (.iload_n 2, 1) := by decide +kernel
theorem dX8_indexFor_37 : decode cX8_indexFor 37 = .ok (.aload_n 0, 1) := by decide +kernel
theorem dX8_indexFor_38 : decode cX8_indexFor 38 = .ok (.getfield 26, 3) := by decide +kernel
theorem dX8_indexFor_41 : decode cX8_indexFor 41 = .ok (.getfield 83, 3) := by decide +kernel
theorem dX8_indexFor_44 : decode cX8_indexFor 44 = .ok (.invokevirtual 242, 3) := by decide +kernel
theorem dX8_indexFor_47 : decode cX8_indexFor 47 = .ok (.istore_n 3, 1) := by decide +kernel
theorem dX8_indexFor_48 : decode cX8_indexFor 48 = .ok (.iload_n 3, 1) := by decide +kernel
theorem dX8_indexFor_49 : decode cX8_indexFor 49 = .ok (.iconst (-1), 1) := by decide +kernel
theorem dX8_indexFor_50 : decode cX8_indexFor 50 = .ok (.if_icmp .eq 7, 3) := by decide +kernel
theorem dX8_indexFor_53 : decode cX8_indexFor 53 = .ok (.iconst 1, 1) := by decide +kernel
theorem dX8_indexFor_54 : decode cX8_indexFor 54 = .ok (.goto 4, 3) := by decide +kernel
theorem dX8_indexFor_57 : decode cX8_indexFor 57 = .ok (.iconst 0, 1) := by decide +kernel
theorem dX8_indexFor_58 : decode cX8_indexFor 58 = .ok (.invokestatic 211, 3) := by decide +kernel
theorem dX8_indexFor_61 : decode cX8_indexFor 61 = .ok (.iload_n 3, 1) := by decide +kernel
theorem dX8_indexFor_62 : decode cX8_indexFor 62 = .ok (.ireturn, 1) := by decide +kernel
theorem dX8_scale_0 : decode cX8_scale 0 = .ok (.aload_n 0, 1) := by decide +kernel
theorem dX8_scale_1 : decode cX8_scale 1 = .ok (.iload_n 1, 1) := by decide +kernel
theorem dX8_scale_2 : decode cX8_scale 2 = .ok (.invokevirtual 161, 3) := by decide +kernel
theorem dX8_scale_5 : decode cX8_scale 5 = .ok (.invokestatic 103, 3) := by decide +kernel
theorem dX8_scale_8 : decode cX8_scale 8 = .ok (.iload_n 2, 1) := by decide +kernel
theorem dX8_scale_9 : decode cX8_scale 9 = .ok (.iconst 1, 1) := by decide +kernel
theorem dX8_scale_10 : decode cX8_scale 10 = .ok (.sipush 10000, 3) := by decide +kernel
theorem dX8_scale_13 : decode cX8_scale 13 = .ok (.invokestatic 49, 3) := by decide +kernel
theorem dX8_scale_16 : decode cX8_scale 16 = .ok (.ifCond .eq 17, 3) := by decide +kernel
theorem dX8_scale_19 : decode cX8_scale 19 = .ok (.iload_n 3, 1) := by decide +kernel
theorem dX8_scale_20 : decode cX8_scale 20 = .ok (.iconst 0, 1) := by decide +kernel
theorem dX8_scale_21 : decode cX8_scale 21 = .ok (.bipush 100, 2) := by decide +kernel
theorem dX8_scale_23 : decode cX8_scale 23 = .ok (.invokestatic 49, 3) := by decide +kernel
theorem dX8_scale_26 : decode cX8_scale 26 = .ok (.ifCond .eq 7, 3) := by decide +kernel
theorem dX8_scale_29 : decode cX8_scale 29 = .ok (.iconst 1, 1) := by decide +kernel
theorem dX8_scale_30 : decode cX8_scale 30 = .ok (.goto 4, 3) := by decide +kernel
theorem dX8_scale_33 : decode cX8_scale 33 = .ok (.iconst 0, 1) := by decide +kernel
theorem dX8_scale_34 : decode cX8_scale 34 = .ok (.invokestatic 53, 3) := by decide +kernel
theorem dX8_scale_37 : decode cX8_scale 37 = .ok (.aload_n 0, 1) := by decide +kernel
theorem dX8_scale_38 : decode cX8_scale 38 = .ok (.getfield 26, 3) := by decide +kernel
theorem dX8_scale_41 : decode cX8_scale 41 = .ok (.getfield 67, 3) := by decide +kernel
theorem dX8_scale_44 : decode cX8_scale 44 = .ok (.iconst 3, 1) := by decide +kernel
theorem dX8_scale_45 : decode cX8_scale 45 = .ok (.if_icmp .ne 22, 3) := by decide +kernel
theorem dX8_scale_48 : decode cX8_scale 48 = .ok (.aload_n 0, 1) := by decide +kernel
theorem dX8_scale_49 : decode cX8_scale 49 = .ok (.getfield 26, 3) := by decide +kernel
theorem dX8_scale_52 : decode cX8_scale 52 = .ok (.getfield 245, 3) := by decide +kernel
theorem dX8_scale_55 : decode cX8_scale 55 = .ok (.getfield 249, 3) := by decide +kernel
theorem dX8_scale_58 : decode cX8_scale 58 = .ok (.bipush 60, 2) := by decide +kernel
theorem dX8_scale_60 : decode cX8_scale 60 = .ok (.if_icmp .ge 7, 3) := by decide +kernel
theorem dX8_scale_63 : decode cX8_scale 63 = .ok (.iconst 1, 1) := by decide +kernel
theorem dX8_scale_64 : decode cX8_scale 64 = .ok (.goto 4, 3) := by decide +kernel
theorem dX8_scale_67 : decode cX8_scale 67 = .ok (.iconst 0, 1) := by decide +kernel
theorem dX8_scale_68 : decode cX8_scale 68 = .ok (.invokestatic 37, 3) := by decide +kernel
theorem dX8_scale_71 : decode cX8_scale 71 = .ok (.aload_n 0, 1) := by decide +kernel
theorem dX8_scale_72 : decode cX8_scale 72 = .ok (.getfield 19, 3) := by decide +kernel
theorem dX8_scale_75 : decode cX8_scale 75 = .ok (.aload_n 0, 1) := by decide +kernel
theorem dX8_scale_76 : decode cX8_scale 76 = .ok (.getfield 26, 3) := by decide +kernel
theorem dX8_scale_79 : decode cX8_scale 79 = .ok (.invokevirtual 60, 3) := by decide +kernel
theorem dX8_scale_82 : decode cX8_scale 82 = .ok (.aload_n 0, 1) := by decide +kernel
theorem dX8_scale_83 : decode cX8_scale 83 = .ok (.getfield 26, 3) := by decide +kernel
theorem dX8_scale_86 : decode cX8_scale 86 = .ok (.getfield 245, 3) := by decide +kernel
theorem dX8_scale_89 : decode cX8_scale 89 = .ok (.iload_n 1, 1) := by decide +kernel
theorem dX8_scale_90 : decode cX8_scale 90 = .ok (.aload_n 0, 1) := by decide +kernel
theorem dX8_scale_91 : decode cX8_scale 91 = .ok (.getfield 26, 3) := by decide +kernel
theorem dX8_scale_94 : decode cX8_scale 94 = .ok (.getfield 227, 3) := by decide +kernel
theorem dX8_scale_97 : decode cX8_scale 97 = .ok (.getfield 254, 3) := by decide +kernel
theorem dX8_scale_100 : decode cX8_scale 100 = .ok (.iload_n 2, 1) := by decide +kernel
theorem dX8_scale_101 : decode cX8_scale 101 = .ok (.iload_n 3, 1) := by decide +kernel
theorem dX8_scale_102 : decode cX8_scale 102 = .ok (.invokestatic 257, 3) := by decide +kernel
theorem dX8_scale_105 : decode cX8_scale 105 = .ok (.invokevirtual 260, 3) := by decide +kernel
theorem dX8_scale_108 : decode cX8_scale 108 = .ok (.aload_n 0, 1) := by decide +kernel
theorem dX8_scale_109 : decode cX8_scale 109 = .ok (.getfield 26, 3) := by decide +kernel
theorem dX8_scale_112 : decode cX8_scale 112 = .ok (.getfield 245, 3) := by decide +kernel
theorem dX8_scale_115 : decode cX8_scale 115 = .ok (.getfield 249, 3) := by decide +kernel
theorem dX8_scale_118 : decode cX8_scale 118 = .ok (.iconst 1, 1) := by decide +kernel
theorem dX8_scale_119 : decode cX8_scale 119 = .ok (.isub, 1) := by decide +kernel
theorem dX8_scale_120 : decode cX8_scale 120 = .ok (.ireturn, 1) := by decide +kernel
theorem dX8_check_0 : decode cX8_check 0 = .ok (.aload_n 0, 1) := by decide +kernel
theorem dX8_check_1 : decode cX8_check 1 = .ok (.iload_n 1, 1) := by decide +kernel
theorem dX8_check_2 : decode cX8_check 2 = .ok (.invokevirtual 262, 3) := by decide +kernel
theorem dX8_check_5 : decode cX8_check 5 = .ok (.invokestatic 103, 3) := by decide +kernel
theorem dX8_check_8 : decode cX8_check 8 = .ok (.iload_n 2, 1) := by decide +kernel
theorem dX8_check_9 : decode cX8_check 9 = .ok (.iconst 1, 1) := by decide +kernel
theorem dX8_check_10 : decode cX8_check 10 = .ok (.sipush 10000, 3) := by decide +kernel
theorem dX8_check_13 : decode cX8_check 13 = .ok (.invokestatic 49, 3) := by decide +kernel
theorem dX8_check_16 : decode cX8_check 16 = .ok (.ifCond .eq 17, 3) := by decide +kernel
theorem dX8_check_19 : decode cX8_check 19 = .ok (.iload_n 3, 1) := by decide +kernel
theorem dX8_check_20 : decode cX8_check 20 = .ok (.iconst 0, 1) := by decide +kernel
theorem dX8_check_21 : decode cX8_check 21 = .ok (.bipush 100, 2) := by decide +kernel
theorem dX8_check_23 : decode cX8_check 23 = .ok (.invokestatic 49, 3) := by decide +kernel
theorem dX8_check_26 : decode cX8_check 26 = .ok (.ifCond .eq 7, 3) := by decide +kernel
theorem dX8_check_29 : decode cX8_check 29 = .ok (.iconst 1, 1) := by decide +kernel
theorem dX8_check_30 : decode cX8_check 30 = .ok (.goto 4, 3) := by decide +kernel
theorem dX8_check_33 : decode cX8_check 33 = .ok (.iconst 0, 1) := by decide +kernel
theorem dX8_check_34 : decode cX8_check 34 = .ok (.invokestatic 53, 3) := by decide +kernel
theorem dX8_check_37 : decode cX8_check 37 = .ok (.aload_n 0, 1) := by decide +kernel
theorem dX8_check_38 : decode cX8_check 38 = .ok (.getfield 26, 3) := by decide +kernel
theorem dX8_check_41 : decode cX8_check 41 = .ok (.getfield 67, 3) := by decide +kernel
theorem dX8_check_44 : decode cX8_check 44 = .ok (.iconst 3, 1) := by decide +kernel
theorem dX8_check_45 : decode cX8_check 45 = .ok (.if_icmp .ne 21, 3) := by decide +kernel
theorem dX8_check_48 : decode cX8_check 48 = .ok (.aload_n 0, 1) := by decide +kernel
theorem dX8_check_49 : decode cX8_check 49 = .ok (.getfield 26, 3) := by decide +kernel
theorem dX8_check_52 : decode cX8_check 52 = .ok (.getfield 245, 3) := by decide +kernel
theorem dX8_check_55 : decode cX8_check 55 = .ok (.iload_n 1, 1) := by decide +kernel
theorem dX8_check_56 : decode cX8_check 56 = .ok (.invokevirtual 265, 3) := by decide +kernel
theorem dX8_check_59 : decode cX8_check 59 = .ok (.ifCond .ne 7, 3) := by decide +kernel
theorem dX8_check_62 : decode cX8_check 62 = .ok (.iconst 1, 1) := by decide +kernel
theorem dX8_check_63 : decode cX8_check 63 = .ok (.goto 4, 3) := by decide +kernel
theorem dX8_check_66 : decode cX8_check 66 = .ok (.iconst 0, 1) := by decide +kernel
theorem dX8_check_67 : decode cX8_check 67 = .ok (.invokestatic 37, 3) := by decide +kernel
theorem dX8_check_70 : decode cX8_check 70 = .ok (.aload_n 0, 1) := by decide +kernel
theorem dX8_check_71 : decode cX8_check 71 = .ok (.getfield 19, 3) := by decide +kernel
theorem dX8_check_74 : decode cX8_check 74 = .ok (.aload_n 0, 1) := by decide +kernel
theorem dX8_check_75 : decode cX8_check 75 = .ok (.getfield 26, 3) := by decide +kernel
theorem dX8_check_78 : decode cX8_check 78 = .ok (.invokevirtual 60, 3) := by decide +kernel
theorem dX8_check_81 : decode cX8_check 81 = .ok (.iload_n 2, 1) := by decide +kernel
theorem dX8_check_82 : decode cX8_check 82 = .ok (.iload_n 3, 1) := by decide +kernel
theorem dX8_check_83 : decode cX8_check 83 = .ok (.invokestatic 257, 3) := by decide +kernel
theorem dX8_check_86 : decode cX8_check 86 = .ok (.istore 4, 2) := by decide +kernel
theorem dX8_check_88 : decode cX8_check 88 = .ok (.aload_n 0, 1) := by decide +kernel
theorem dX8_check_89 : decode cX8_check 89 = .ok (.getfield 26, 3) := by decide +kernel
theorem dX8_check_92 : decode cX8_check 92 = .ok (.getfield 245, 3) := by decide +kernel
theorem dX8_check_95 : decode cX8_check 95 = .ok (.iload_n 1, 1) := by decide +kernel
theorem dX8_check_96 : decode cX8_check 96 = .ok (.iload 4, 2) := by decide +kernel
theorem dX8_check_98 : decode cX8_check 98 = .ok (.invokevirtual 268, 3) := by decide +kernel
theorem dX8_check_101 : decode cX8_check 101 = .ok (.iload 4, 2) := by decide +kernel
theorem dX8_check_103 : decode cX8_check 103 = .ok (.aload_n 0, 1) := by decide +kernel
theorem dX8_check_104 : decode cX8_check 104 = .ok (.getfield 26, 3) := by decide +kernel
theorem dX8_check_107 : decode cX8_check 107 = .ok (.getfield 245, 3) := by decide +kernel
theorem dX8_check_110 : decode cX8_check 110 = .ok (.getfield 271, 3) := by decide +kernel
theorem dX8_check_113 : decode cX8_check 113 = .ok (.iload_n 1, 1) := by decide +kernel
theorem dX8_check_114 : decode cX8_check 114 = .ok (.iaload, 1) := by decide +kernel
theorem dX8_check_115 : decode cX8_check 115 = .ok (.isub, 1) := by decide +kernel
theorem dX8_check_116 : decode cX8_check 116 = .ok (.ireturn, 1) := by decide +kernel
theorem dX8_voidLoad_0 : decode cX8_voidLoad 0 = .ok (.aload_n 0, 1) := by decide +kernel
theorem dX8_voidLoad_1 : decode cX8_voidLoad 1 = .ok (.iload_n 1, 1) := by decide +kernel
theorem dX8_voidLoad_2 : decode cX8_voidLoad 2 = .ok (.invokevirtual 262, 3) := by decide +kernel
theorem dX8_voidLoad_5 : decode cX8_voidLoad 5 = .ok (.invokestatic 103, 3) := by decide +kernel
theorem dX8_voidLoad_8 : decode cX8_voidLoad 8 = .ok (.aload_n 0, 1) := by decide +kernel
theorem dX8_voidLoad_9 : decode cX8_voidLoad 9 = .ok (.getfield 26, 3) := by decide +kernel
theorem dX8_voidLoad_12 : decode cX8_voidLoad 12 = .ok (.getfield 67, 3) := by decide +kernel
theorem dX8_voidLoad_15 : decode cX8_voidLoad 15 = .ok (.iconst 3, 1) := by decide +kernel
theorem dX8_voidLoad_16 : decode cX8_voidLoad 16 = .ok (.if_icmp .ne 46, 3) := by decide +kernel
theorem dX8_voidLoad_19 : decode cX8_voidLoad 19 = .ok (.aload_n 0, 1) := by decide +kernel
theorem dX8_voidLoad_20 : decode cX8_voidLoad 20 = .ok (.getfield 26, 3) := by decide +kernel
theorem dX8_voidLoad_23 : decode cX8_voidLoad 23 = .ok (.getfield 245, 3) := by decide +kernel
theorem dX8_voidLoad_26 : decode cX8_voidLoad 26 = .ok (.getfield 274, 3) := by decide +kernel
theorem dX8_voidLoad_29 : decode cX8_voidLoad 29 = .ok (.iload_n 1, 1) := by decide +kernel
theorem dX8_voidLoad_30 : decode cX8_voidLoad 30 = .ok (.iaload, 1) := by decide +kernel
theorem dX8_voidLoad_31 : decode cX8_voidLoad 31 = .ok (.aload_n 0, 1) := by decide +kernel
theorem dX8_voidLoad_32 : decode cX8_voidLoad 32 = .ok (.getfield 26, 3) := by decide +kernel
theorem dX8_voidLoad_35 : decode cX8_voidLoad 35 = .ok (.getfield 227, 3) := by decide +kernel
theorem dX8_voidLoad_38 : decode cX8_voidLoad 38 = .ok (.getfield 254, 3) := by decide +kernel
theorem dX8_voidLoad_41 : decode cX8_voidLoad 41 = .ok (.if_icmp .ne 21, 3) := by decide +kernel
theorem dX8_voidLoad_44 : decode cX8_voidLoad 44 = .ok (.aload_n 0, 1) := by decide +kernel
theorem dX8_voidLoad_45 : decode cX8_voidLoad 45 = .ok (.getfield 26, 3) := by decide +kernel
theorem dX8_voidLoad_48 : decode cX8_voidLoad 48 = .ok (.getfield 245, 3) := by decide +kernel
theorem dX8_voidLoad_51 : decode cX8_voidLoad 51 = .ok (.iload_n 1, 1) := by decide +kernel
theorem dX8_voidLoad_52 : decode cX8_voidLoad 52 = .ok (.invokevirtual 265, 3) := by decide +kernel
theorem dX8_voidLoad_55 : decode cX8_voidLoad 55 = .ok (.ifCond .ne 7, 3) := by decide +kernel
theorem dX8_voidLoad_58 : decode cX8_voidLoad 58 = .ok (.iconst 1, 1) := by decide +kernel
theorem dX8_voidLoad_59 : decode cX8_voidLoad 59 = .ok (.goto 4, 3) := by decide +kernel
theorem dX8_voidLoad_62 : decode cX8_voidLoad 62 = .ok (.iconst 0, 1) := by decide +kernel
theorem dX8_voidLoad_63 : decode cX8_voidLoad 63 = .ok (.invokestatic 37, 3) := by decide +kernel
theorem dX8_voidLoad_66 : decode cX8_voidLoad 66 = .ok (.aload_n 0, 1) := by decide +kernel
theorem dX8_voidLoad_67 : decode cX8_voidLoad 67 = .ok (.getfield 19, 3) := by decide +kernel
theorem dX8_voidLoad_70 : decode cX8_voidLoad 70 = .ok (.aload_n 0, 1) := by decide +kernel
theorem dX8_voidLoad_71 : decode cX8_voidLoad 71 = .ok (.getfield 26, 3) := by decide +kernel
theorem dX8_voidLoad_74 : decode cX8_voidLoad 74 = .ok (.invokevirtual 60, 3) := by decide +kernel
theorem dX8_voidLoad_77 : decode cX8_voidLoad 77 = .ok (.aload_n 0, 1) := by decide +kernel
theorem dX8_voidLoad_78 : decode cX8_voidLoad 78 = .ok (.getfield 26, 3) := by decide +kernel
theorem dX8_voidLoad_81 : decode cX8_voidLoad 81 = .ok (.getfield 245, 3) := by decide +kernel
theorem dX8_voidLoad_84 : decode cX8_voidLoad 84 = .ok (.iload_n 1, 1) := by decide +kernel
theorem dX8_voidLoad_85 : decode cX8_voidLoad 85 = .ok (.invokevirtual 277, 3) := by decide +kernel
theorem dX8_voidLoad_88 : decode cX8_voidLoad 88 = .ok (.aload_n 0, 1) := by decide +kernel
theorem dX8_voidLoad_89 : decode cX8_voidLoad 89 = .ok (.getfield 26, 3) := by decide +kernel
theorem dX8_voidLoad_92 : decode cX8_voidLoad 92 = .ok (.getfield 245, 3) := by decide +kernel
theorem dX8_voidLoad_95 : decode cX8_voidLoad 95 = .ok (.getfield 249, 3) := by decide +kernel
theorem dX8_voidLoad_98 : decode cX8_voidLoad 98 = .ok (.ireturn, 1) := by decide +kernel
theorem dX8_worstCheck_0 : decode cX8_worstCheck 0 = .ok (.aload_n 0, 1) := by decide +kernel
theorem dX8_worstCheck_1 : decode cX8_worstCheck 1 = .ok (.getfield 26, 3) := by decide +kernel
theorem dX8_worstCheck_4 : decode cX8_worstCheck 4 = .ok (.getfield 245, 3) := by decide +kernel
theorem dX8_worstCheck_7 : decode cX8_worstCheck 7 = .ok (.invokevirtual 278, 3) := by decide +kernel
theorem dX8_worstCheck_10 : decode cX8_worstCheck 10 = .ok (.istore_n 1, 1) := by decide +kernel
theorem dX8_worstCheck_11 : decode cX8_worstCheck 11 = .ok (.iload_n 1, 1) := by decide +kernel
theorem dX8_worstCheck_12 : decode cX8_worstCheck 12 = .ok (.iconst (-1), 1) := by decide +kernel
theorem dX8_worstCheck_13 : decode cX8_worstCheck 13 = .ok (.if_icmp .eq 7, 3) := by decide +kernel
theorem dX8_worstCheck_16 : decode cX8_worstCheck 16 = .ok (.iconst 1, 1) := by decide +kernel
theorem dX8_worstCheck_17 : decode cX8_worstCheck 17 = .ok (.goto 4, 3) := by decide +kernel
theorem dX8_worstCheck_20 : decode cX8_worstCheck 20 = .ok (.iconst 0, 1) := by decide +kernel
theorem dX8_worstCheck_21 : decode cX8_worstCheck 21 = .ok (.invokestatic 211, 3) := by decide +kernel
theorem dX8_worstCheck_24 : decode cX8_worstCheck 24 = .ok (.iload_n 1, 1) := by decide +kernel
theorem dX8_worstCheck_25 : decode cX8_worstCheck 25 = .ok (.ireturn, 1) := by decide +kernel
theorem dX8_scaled_0 : decode cX8_scaled 0 = .ok (.aload_n 0, 1) := by decide +kernel
theorem dX8_scaled_1 : decode cX8_scaled 1 = .ok (.iload_n 1, 1) := by decide +kernel
theorem dX8_scaled_2 : decode cX8_scaled 2 = .ok (.invokevirtual 109, 3) := by decide +kernel
theorem dX8_scaled_5 : decode cX8_scaled 5 = .ok (.invokestatic 103, 3) := by decide +kernel
theorem dX8_scaled_8 : decode cX8_scaled 8 = .ok (.iload_n 2, 1) := by decide +kernel
theorem dX8_scaled_9 : decode cX8_scaled 9 = .ok (.iconst 0, 1) := by decide +kernel
theorem dX8_scaled_10 : decode cX8_scaled 10 = .ok (.bipush 36, 2) := by decide +kernel
theorem dX8_scaled_12 : decode cX8_scaled 12 = .ok (.invokestatic 49, 3) := by decide +kernel
theorem dX8_scaled_15 : decode cX8_scaled 15 = .ok (.ifCond .eq 17, 3) := by decide +kernel
theorem dX8_scaled_18 : decode cX8_scaled 18 = .ok (.iload_n 3, 1) := by decide +kernel
theorem dX8_scaled_19 : decode cX8_scaled 19 = .ok (.iload_n 2, 1) := by decide +kernel
theorem dX8_scaled_20 : decode cX8_scaled 20 = .ok (.bipush 36, 2) := by decide +kernel
theorem dX8_scaled_22 : decode cX8_scaled 22 = .ok (.invokestatic 49, 3) := by decide +kernel
theorem dX8_scaled_25 : decode cX8_scaled 25 = .ok (.ifCond .eq 7, 3) := by decide +kernel
theorem dX8_scaled_28 : decode cX8_scaled 28 = .ok (.iconst 1, 1) := by decide +kernel
theorem dX8_scaled_29 : decode cX8_scaled 29 = .ok (.goto 4, 3) := by decide +kernel
theorem dX8_scaled_32 : decode cX8_scaled 32 = .ok (.iconst 0, 1) := by decide +kernel
theorem dX8_scaled_33 : decode cX8_scaled 33 = .ok (.invokestatic 53, 3) := by decide +kernel
theorem dX8_scaled_36 : decode cX8_scaled 36 = .ok (.aload_n 0, 1) := by decide +kernel
theorem dX8_scaled_37 : decode cX8_scaled 37 = .ok (.getfield 26, 3) := by decide +kernel
theorem dX8_scaled_40 : decode cX8_scaled 40 = .ok (.invokevirtual 236, 3) := by decide +kernel
theorem dX8_scaled_43 : decode cX8_scaled 43 = .ok (.invokestatic 37, 3) := by decide +kernel
theorem dX8_scaled_46 : decode cX8_scaled 46 = .ok (.aload_n 0, 1) := by decide +kernel
theorem dX8_scaled_47 : decode cX8_scaled 47 = .ok (.getfield 26, 3) := by decide +kernel
theorem dX8_scaled_50 : decode cX8_scaled 50 = .ok (.getfield 245, 3) := by decide +kernel
theorem dX8_scaled_53 : decode cX8_scaled 53 = .ok (.iload_n 1, 1) := by decide +kernel
theorem dX8_scaled_54 : decode cX8_scaled 54 = .ok (.iload_n 2, 1) := by decide +kernel
theorem dX8_scaled_55 : decode cX8_scaled 55 = .ok (.iload_n 3, 1) := by decide +kernel
theorem dX8_scaled_56 : decode cX8_scaled 56 = .ok (.invokevirtual 282, 3) := by decide +kernel
theorem dX8_scaled_59 : decode cX8_scaled 59 = .ok (.ireturn, 1) := by decide +kernel
theorem dX8_cutShare_0 : decode cX8_cutShare 0 = .ok (.aload_n 0, 1) := by decide +kernel
theorem dX8_cutShare_1 : decode cX8_cutShare 1 = .ok (.getfield 26, 3) := by decide +kernel
theorem dX8_cutShare_4 : decode cX8_cutShare 4 = .ok (.invokevirtual 236, 3) := by decide +kernel
theorem dX8_cutShare_7 : decode cX8_cutShare 7 = .ok (.invokestatic 37, 3) := by decide +kernel
theorem dX8_cutShare_10 : decode cX8_cutShare 10 = .ok (.ldc2_w 286, 3) := by decide +kernel
theorem dX8_cutShare_13 : decode cX8_cutShare 13 = .ok (.aload_n 0, 1) := by decide +kernel
theorem dX8_cutShare_14 : decode cX8_cutShare 14 = .ok (.getfield 26, 3) := by decide +kernel
theorem dX8_cutShare_17 : decode cX8_cutShare 17 = .ok (.getfield 227, 3) := by decide +kernel
theorem dX8_cutShare_20 : decode cX8_cutShare 20 = .ok (.getfield 288, 3) := by decide +kernel
theorem dX8_cutShare_23 : decode cX8_cutShare 23 = .ok (.invokestatic 157, 3) := by decide +kernel
theorem dX8_cutShare_26 : decode cX8_cutShare 26 = .ok (.i2l, 1) := by decide +kernel
theorem dX8_cutShare_27 : decode cX8_cutShare 27 = .ok (.lmul, 1) := by decide +kernel
theorem dX8_cutShare_28 : decode cX8_cutShare 28 = .ok (.lstore_n 2, 1) := by decide +kernel
theorem dX8_cutShare_29 : decode cX8_cutShare 29 = .ok (.lload_n 2, 1) := by decide +kernel
theorem dX8_cutShare_30 : decode cX8_cutShare 30 = .ok (.lconst 0, 1) := by decide +kernel
theorem dX8_cutShare_31 : decode cX8_cutShare 31 = .ok (.lcmp, 1) := by decide +kernel
theorem dX8_cutShare_32 : decode cX8_cutShare 32 = .ok (.ifCond .ne 13, 3) := by decide +kernel
theorem dX8_cutShare_35 : decode cX8_cutShare 35 = .ok (.iload_n 1, 1) := by decide +kernel
theorem dX8_cutShare_36 : decode cX8_cutShare 36 = .ok (.ifCond .eq 7, 3) := by decide +kernel
theorem dX8_cutShare_39 : decode cX8_cutShare 39 = .ok (.lconst 1, 1) := by decide +kernel
theorem dX8_cutShare_40 : decode cX8_cutShare 40 = .ok (.goto 4, 3) := by decide +kernel
theorem dX8_cutShare_43 : decode cX8_cutShare 43 = .ok (.lconst 0, 1) := by decide +kernel
theorem dX8_cutShare_44 : decode cX8_cutShare 44 = .ok (.lreturn, 1) := by decide +kernel
theorem dX8_cutShare_45 : decode cX8_cutShare 45 = .ok (.aload_n 0, 1) := by decide +kernel
theorem dX8_cutShare_46 : decode cX8_cutShare 46 = .ok (.getfield 26, 3) := by decide +kernel
theorem dX8_cutShare_49 : decode cX8_cutShare 49 = .ok (.getfield 245, 3) := by decide +kernel
theorem dX8_cutShare_52 : decode cX8_cutShare 52 = .ok (.iconst (-1), 1) := by decide +kernel
theorem dX8_cutShare_53 : decode cX8_cutShare 53 = .ok (.iconst 0, 1) := by decide +kernel
theorem dX8_cutShare_54 : decode cX8_cutShare 54 = .ok (.bipush 36, 2) := by decide +kernel
theorem dX8_cutShare_56 : decode cX8_cutShare 56 = .ok (.invokevirtual 282, 3) := by decide +kernel
theorem dX8_cutShare_59 : decode cX8_cutShare 59 = .ok (.i2l, 1) := by decide +kernel
theorem dX8_cutShare_60 : decode cX8_cutShare 60 = .ok (.lload_n 2, 1) := by decide +kernel
theorem dX8_cutShare_61 : decode cX8_cutShare 61 = .ok (.iload_n 1, 1) := by decide +kernel
theorem dX8_cutShare_62 : decode cX8_cutShare 62 = .ok (.invokestatic 117, 3) := by decide +kernel
theorem dX8_cutShare_65 : decode cX8_cutShare 65 = .ok (.lreturn, 1) := by decide +kernel
theorem dX8_net_0 : decode cX8_net 0 = .ok (.aload_n 0, 1) := by decide +kernel
theorem dX8_net_1 : decode cX8_net 1 = .ok (.iload_n 1, 1) := by decide +kernel
theorem dX8_net_2 : decode cX8_net 2 = .ok (.invokevirtual 262, 3) := by decide +kernel
theorem dX8_net_5 : decode cX8_net 5 = .ok (.invokestatic 103, 3) := by decide +kernel
theorem dX8_net_8 : decode cX8_net 8 = .ok (.aload_n 0, 1) := by decide +kernel
theorem dX8_net_9 : decode cX8_net 9 = .ok (.getfield 26, 3) := by decide +kernel
theorem dX8_net_12 : decode cX8_net 12 = .ok (.getfield 245, 3) := by decide +kernel
theorem dX8_net_15 : decode cX8_net 15 = .ok (.getfield 271, 3) := by decide +kernel
theorem dX8_net_18 : decode cX8_net 18 = .ok (.iload_n 1, 1) := by decide +kernel
theorem dX8_net_19 : decode cX8_net 19 = .ok (.iaload, 1) := by decide +kernel
theorem dX8_net_20 : decode cX8_net 20 = .ok (.ireturn, 1) := by decide +kernel
theorem dX8_factor_0 : decode cX8_factor 0 = .ok (.aload_n 0, 1) := by decide +kernel
theorem dX8_factor_1 : decode cX8_factor 1 = .ok (.getfield 26, 3) := by decide +kernel
theorem dX8_factor_4 : decode cX8_factor 4 = .ok (.getfield 83, 3) := by decide +kernel
theorem dX8_factor_7 : decode cX8_factor 7 = .ok (.getfield 87, 3) := by decide +kernel
theorem dX8_factor_10 : decode cX8_factor 10 = .ok (.iconst 4, 1) := by decide +kernel
theorem dX8_factor_11 : decode cX8_factor 11 = .ok (.iaload, 1) := by decide +kernel
theorem dX8_factor_12 : decode cX8_factor 12 = .ok (.istore_n 2, 1) := by decide +kernel
theorem dX8_factor_13 : decode cX8_factor 13 = .ok (.aload_n 0, 1) := by decide +kernel
theorem dX8_factor_14 : decode cX8_factor 14 = .ok (.getfield 26, 3) := by decide +kernel
theorem dX8_factor_17 : decode cX8_factor 17 = .ok (.getfield 245, 3) := by decide +kernel
theorem dX8_factor_20 : decode cX8_factor 20 = .ok (.iload_n 2, 1) := by decide +kernel
theorem dX8_factor_21 : decode cX8_factor 21 = .ok (.invokevirtual 289, 3) := by decide +kernel
theorem dX8_factor_24 : decode cX8_factor 24 = .ok (.lstore_n 3, 1) := by decide +kernel
theorem dX8_factor_25 : decode cX8_factor 25 = .ok (.lload_n 3, 1) := by decide +kernel
theorem dX8_factor_26 : decode cX8_factor 26 = .ok (.aload_n 0, 1) := by decide +kernel
theorem dX8_factor_27 : decode cX8_factor 27 = .ok (.getfield 26, 3) := by decide +kernel
theorem dX8_factor_30 : decode cX8_factor 30 = .ok (.getfield 245, 3) := by decide +kernel
theorem dX8_factor_33 : decode cX8_factor 33 = .ok (.iload_n 2, 1) := by decide +kernel
theorem dX8_factor_34 : decode cX8_factor 34 = .ok (.invokevirtual 292, 3) := by decide +kernel
theorem dX8_factor_37 : decode cX8_factor 37 = .ok (.iload_n 1, 1) := by decide +kernel
theorem dX8_factor_38 : decode cX8_factor 38 = .ok (.invokestatic 117, 3) := by decide +kernel
theorem dX8_factor_41 : decode cX8_factor 41 = .ok (.l2i, 1) := by decide +kernel
theorem dX8_factor_42 : decode cX8_factor 42 = .ok (.ireturn, 1) := by decide +kernel
theorem dX8_month_0 : decode cX8_month 0 = .ok (.aload_n 0, 1) := by decide +kernel
theorem dX8_month_1 : decode cX8_month 1 = .ok (.getfield 26, 3) := by decide +kernel
theorem dX8_month_4 : decode cX8_month 4 = .ok (.getfield 227, 3) := by decide +kernel
theorem dX8_month_7 : decode cX8_month 7 = .ok (.getfield 254, 3) := by decide +kernel
theorem dX8_month_10 : decode cX8_month 10 = .ok (.ireturn, 1) := by decide +kernel
theorem dX8_endMonth_0 : decode cX8_endMonth 0 = .ok (.aload_n 0, 1) := by decide +kernel
theorem dX8_endMonth_1 : decode cX8_endMonth 1 = .ok (.getfield 26, 3) := by decide +kernel
theorem dX8_endMonth_4 : decode cX8_endMonth 4 = .ok (.getfield 67, 3) := by decide +kernel
theorem dX8_endMonth_7 : decode cX8_endMonth 7 = .ok (.iconst 3, 1) := by decide +kernel
theorem dX8_endMonth_8 : decode cX8_endMonth 8 = .ok (.if_icmp .ne 22, 3) := by decide +kernel
theorem dX8_endMonth_11 : decode cX8_endMonth 11 = .ok (.aload_n 0, 1) := by decide +kernel
theorem dX8_endMonth_12 : decode cX8_endMonth 12 = .ok (.getfield 26, 3) := by decide +kernel
theorem dX8_endMonth_15 : decode cX8_endMonth 15 = .ok (.getfield 227, 3) := by decide +kernel
theorem dX8_endMonth_18 : decode cX8_endMonth 18 = .ok (.getfield 254, 3) := by decide +kernel
theorem dX8_endMonth_21 : decode cX8_endMonth 21 = .ok (.bipush 35, 2) := by decide +kernel
theorem dX8_endMonth_23 : decode cX8_endMonth 23 = .ok (.if_icmp .ge 7, 3) := by decide +kernel
theorem dX8_endMonth_26 : decode cX8_endMonth 26 = .ok (.iconst 1, 1) := by decide +kernel
theorem dX8_endMonth_27 : decode cX8_endMonth 27 = .ok (.goto 4, 3) := by decide +kernel
theorem dX8_endMonth_30 : decode cX8_endMonth 30 = .ok (.iconst 0, 1) := by decide +kernel
theorem dX8_endMonth_31 : decode cX8_endMonth 31 = .ok (.invokestatic 37, 3) := by decide +kernel
theorem dX8_endMonth_34 : decode cX8_endMonth 34 = .ok (.aload_n 0, 1) := by decide +kernel
theorem dX8_endMonth_35 : decode cX8_endMonth 35 = .ok (.getfield 19, 3) := by decide +kernel
theorem dX8_endMonth_38 : decode cX8_endMonth 38 = .ok (.aload_n 0, 1) := by decide +kernel
theorem dX8_endMonth_39 : decode cX8_endMonth 39 = .ok (.getfield 26, 3) := by decide +kernel
theorem dX8_endMonth_42 : decode cX8_endMonth 42 = .ok (.invokevirtual 60, 3) := by decide +kernel
theorem dX8_endMonth_45 : decode cX8_endMonth 45 = .ok (.aload_n 0, 1) := by decide +kernel
theorem dX8_endMonth_46 : decode cX8_endMonth 46 = .ok (.getfield 26, 3) := by decide +kernel
theorem dX8_endMonth_49 : decode cX8_endMonth 49 = .ok (.invokevirtual 295, 3) := by decide +kernel
theorem dX8_endMonth_52 : decode cX8_endMonth 52 = .ok (.aload_n 0, 1) := by decide +kernel
theorem dX8_endMonth_53 : decode cX8_endMonth 53 = .ok (.getfield 26, 3) := by decide +kernel
theorem dX8_endMonth_56 : decode cX8_endMonth 56 = .ok (.getfield 227, 3) := by decide +kernel
theorem dX8_endMonth_59 : decode cX8_endMonth 59 = .ok (.dup, 1) := by decide +kernel
theorem dX8_endMonth_60 : decode cX8_endMonth 60 = .ok (.getfield 254, 3) := by decide +kernel
theorem dX8_endMonth_63 : decode cX8_endMonth 63 = .ok (.iconst 1, 1) := by decide +kernel
theorem dX8_endMonth_64 : decode cX8_endMonth 64 = .ok (.iadd, 1) := by decide +kernel
theorem dX8_endMonth_65 : decode cX8_endMonth 65 = .ok (.putfield 254, 3) := by decide +kernel
theorem dX8_endMonth_68 : decode cX8_endMonth 68 = .ok (.aload_n 0, 1) := by decide +kernel
theorem dX8_endMonth_69 : decode cX8_endMonth 69 = .ok (.getfield 26, 3) := by decide +kernel
theorem dX8_endMonth_72 : decode cX8_endMonth 72 = .ok (.getfield 227, 3) := by decide +kernel
theorem dX8_endMonth_75 : decode cX8_endMonth 75 = .ok (.getfield 298, 3) := by decide +kernel
theorem dX8_endMonth_78 : decode cX8_endMonth 78 = .ok (.lreturn, 1) := by decide +kernel
theorem dX8_charge_0 : decode cX8_charge 0 = .ok (.iload_n 1, 1) := by decide +kernel
theorem dX8_charge_1 : decode cX8_charge 1 = .ok (.iconst 0, 1) := by decide +kernel
theorem dX8_charge_2 : decode cX8_charge 2 = .ok (.aload_n 0, 1) := by decide +kernel
theorem dX8_charge_3 : decode cX8_charge 3 = .ok (.getfield 26, 3) := by decide +kernel
theorem dX8_charge_6 : decode cX8_charge 6 = .ok (.getfield 227, 3) := by decide +kernel
theorem dX8_charge_9 : decode cX8_charge 9 = .ok (.getfield 254, 3) := by decide +kernel
theorem dX8_charge_12 : decode cX8_charge 12 = .ok (.invokestatic 49, 3) := by decide +kernel
theorem dX8_charge_15 : decode cX8_charge 15 = .ok (.invokestatic 103, 3) := by decide +kernel
theorem dX8_charge_18 : decode cX8_charge 18 = .ok (.aload_n 0, 1) := by decide +kernel
theorem dX8_charge_19 : decode cX8_charge 19 = .ok (.getfield 26, 3) := by decide +kernel
theorem dX8_charge_22 : decode cX8_charge 22 = .ok (.invokevirtual 236, 3) := by decide +kernel
theorem dX8_charge_25 : decode cX8_charge 25 = .ok (.invokestatic 37, 3) := by decide +kernel
theorem dX8_charge_28 : decode cX8_charge 28 = .ok (.aload_n 0, 1) := by decide +kernel
theorem dX8_charge_29 : decode cX8_charge 29 = .ok (.getfield 26, 3) := by decide +kernel
theorem dX8_charge_32 : decode cX8_charge 32 = .ok (.iload_n 1, 1) := by decide +kernel
theorem dX8_charge_33 : decode cX8_charge 33 = .ok (.invokevirtual 302, 3) := by decide +kernel
theorem dX8_charge_36 : decode cX8_charge 36 = .ok (.lreturn, 1) := by decide +kernel
theorem dX8_pay_0 : decode cX8_pay 0 = .ok (.iload_n 1, 1) := by decide +kernel
theorem dX8_pay_1 : decode cX8_pay 1 = .ok (.iconst 1, 1) := by decide +kernel
theorem dX8_pay_2 : decode cX8_pay 2 = .ok (.ldc 181, 2) := by decide +kernel
theorem dX8_pay_4 : decode cX8_pay 4 = .ok (.invokestatic 49, 3) := by decide +kernel
theorem dX8_pay_7 : decode cX8_pay 7 = .ok (.invokestatic 53, 3) := by decide +kernel
theorem dX8_pay_10 : decode cX8_pay 10 = .ok (.aload_n 0, 1) := by decide +kernel
theorem dX8_pay_11 : decode cX8_pay 11 = .ok (.getfield 26, 3) := by decide +kernel
theorem dX8_pay_14 : decode cX8_pay 14 = .ok (.getfield 67, 3) := by decide +kernel
theorem dX8_pay_17 : decode cX8_pay 17 = .ok (.iconst 3, 1) := by decide +kernel
theorem dX8_pay_18 : decode cX8_pay 18 = .ok (.if_icmp .eq 14, 3) := by decide +kernel
theorem dX8_pay_21 : decode cX8_pay 21 = .ok (.aload_n 0, 1) := by decide +kernel
theorem dX8_pay_22 : decode cX8_pay 22 = .ok (.getfield 26, 3) := by decide +kernel
theorem dX8_pay_25 : decode cX8_pay 25 = .ok (.getfield 67, 3) := by decide +kernel
theorem dX8_pay_28 : decode cX8_pay 28 = .ok (.iconst 4, 1) := by decide +kernel
theorem dX8_pay_29 : decode cX8_pay 29 = .ok (.if_icmp .ne 7, 3) := by decide +kernel
theorem dX8_pay_32 : decode cX8_pay 32 = .ok (.iconst 1, 1) := by decide +kernel
theorem dX8_pay_33 : decode cX8_pay 33 = .ok (.goto 4, 3) := by decide +kernel
theorem dX8_pay_36 : decode cX8_pay 36 = .ok (.iconst 0, 1) := by decide +kernel
theorem dX8_pay_37 : decode cX8_pay 37 = .ok (.invokestatic 37, 3) := by decide +kernel
theorem dX8_pay_40 : decode cX8_pay 40 = .ok (.aload_n 0, 1) := by decide +kernel
theorem dX8_pay_41 : decode cX8_pay 41 = .ok (.getfield 19, 3) := by decide +kernel
theorem dX8_pay_44 : decode cX8_pay 44 = .ok (.aload_n 0, 1) := by decide +kernel
theorem dX8_pay_45 : decode cX8_pay 45 = .ok (.getfield 26, 3) := by decide +kernel
theorem dX8_pay_48 : decode cX8_pay 48 = .ok (.invokevirtual 60, 3) := by decide +kernel
theorem dX8_pay_51 : decode cX8_pay 51 = .ok (.aload_n 0, 1) := by decide +kernel
theorem dX8_pay_52 : decode cX8_pay 52 = .ok (.getfield 26, 3) := by decide +kernel
theorem dX8_pay_55 : decode cX8_pay 55 = .ok (.getfield 227, 3) := by decide +kernel
theorem dX8_pay_58 : decode cX8_pay 58 = .ok (.dup, 1) := by decide +kernel
theorem dX8_pay_59 : decode cX8_pay 59 = .ok (.getfield 298, 3) := by decide +kernel
theorem dX8_pay_62 : decode cX8_pay 62 = .ok (.iload_n 1, 1) := by decide +kernel
theorem dX8_pay_63 : decode cX8_pay 63 = .ok (.i2l, 1) := by decide +kernel
theorem dX8_pay_64 : decode cX8_pay 64 = .ok (.lsub, 1) := by decide +kernel
theorem dX8_pay_65 : decode cX8_pay 65 = .ok (.putfield 298, 3) := by decide +kernel
theorem dX8_pay_68 : decode cX8_pay 68 = .ok (.aload_n 0, 1) := by decide +kernel
theorem dX8_pay_69 : decode cX8_pay 69 = .ok (.getfield 26, 3) := by decide +kernel
theorem dX8_pay_72 : decode cX8_pay 72 = .ok (.getfield 227, 3) := by decide +kernel
theorem dX8_pay_75 : decode cX8_pay 75 = .ok (.getfield 298, 3) := by decide +kernel
theorem dX8_pay_78 : decode cX8_pay 78 = .ok (.lreturn, 1) := by decide +kernel
theorem dX8_debt_0 : decode cX8_debt 0 = .ok (.aload_n 0, 1) := by decide +kernel
theorem dX8_debt_1 : decode cX8_debt 1 = .ok (.getfield 26, 3) := by decide +kernel
theorem dX8_debt_4 : decode cX8_debt 4 = .ok (.getfield 227, 3) := by decide +kernel
theorem dX8_debt_7 : decode cX8_debt 7 = .ok (.getfield 298, 3) := by decide +kernel
theorem dX8_debt_10 : decode cX8_debt 10 = .ok (.lreturn, 1) := by decide +kernel
theorem dX8_projectedDebt_0 : decode cX8_projectedDebt 0 = .ok (.iload_n 1, 1) := by decide +kernel
theorem dX8_projectedDebt_1 : decode cX8_projectedDebt 1 = .ok (.iconst 1, 1) := by decide +kernel
theorem dX8_projectedDebt_2 : decode cX8_projectedDebt 2 = .ok (.bipush 12, 2) := by decide +kernel
theorem dX8_projectedDebt_4 : decode cX8_projectedDebt 4 = .ok (.invokestatic 49, 3) := by decide +kernel
theorem dX8_projectedDebt_7 : decode cX8_projectedDebt 7 = .ok (.invokestatic 53, 3) := by decide +kernel
theorem dX8_projectedDebt_10 : decode cX8_projectedDebt 10 = .ok (.aload_n 0, 1) := by decide +kernel
theorem dX8_projectedDebt_11 : decode cX8_projectedDebt 11 = .ok (.getfield 26, 3) := by decide +kernel
theorem dX8_projectedDebt_14 : decode cX8_projectedDebt 14 = .ok (.getfield 67, 3) := by decide +kernel
theorem dX8_projectedDebt_17 : decode cX8_projectedDebt 17 = .ok (.iconst 3, 1) := by decide +kernel
theorem dX8_projectedDebt_18 : decode cX8_projectedDebt 18 = .ok (.if_icmp .ne 7, 3) := by decide +kernel
theorem dX8_projectedDebt_21 : decode cX8_projectedDebt 21 = .ok (.iconst 1, 1) := by decide +kernel
theorem dX8_projectedDebt_22 : decode cX8_projectedDebt 22 = .ok (.goto 4, 3) := by decide +kernel
theorem dX8_projectedDebt_25 : decode cX8_projectedDebt 25 = .ok (.iconst 0, 1) := by decide +kernel
theorem dX8_projectedDebt_26 : decode cX8_projectedDebt 26 = .ok (.invokestatic 37, 3) := by decide +kernel
theorem dX8_projectedDebt_29 : decode cX8_projectedDebt 29 = .ok (.aload_n 0, 1) := by decide +kernel
theorem dX8_projectedDebt_30 : decode cX8_projectedDebt 30 = .ok (.getfield 26, 3) := by decide +kernel
theorem dX8_projectedDebt_33 : decode cX8_projectedDebt 33 = .ok (.aload_n 0, 1) := by decide +kernel
theorem dX8_projectedDebt_34 : decode cX8_projectedDebt 34 = .ok (.getfield 26, 3) := by decide +kernel
theorem dX8_projectedDebt_37 : decode cX8_projectedDebt 37 = .ok (.getfield 227, 3) := by decide +kernel
theorem dX8_projectedDebt_40 : decode cX8_projectedDebt 40 = .ok (.getfield 298, 3) := by decide +kernel
theorem dX8_projectedDebt_43 : decode cX8_projectedDebt 43 = .ok (.invokevirtual 305, 3) := by decide +kernel
theorem dX8_projectedDebt_46 : decode cX8_projectedDebt 46 = .ok (.aload_n 0, 1) := by decide +kernel
theorem dX8_projectedDebt_47 : decode cX8_projectedDebt 47 = .ok (.getfield 26, 3) := by decide +kernel
theorem dX8_projectedDebt_50 : decode cX8_projectedDebt 50 = .ok (.aload_n 0, 1) := by decide +kernel
theorem dX8_projectedDebt_51 : decode cX8_projectedDebt 51 = .ok (.getfield 26, 3) := by decide +kernel
theorem dX8_projectedDebt_54 : decode cX8_projectedDebt 54 = .ok (.getfield 227, 3) := by decide +kernel
theorem dX8_projectedDebt_57 : decode cX8_projectedDebt 57 = .ok (.getfield 254, 3) := by decide +kernel
theorem dX8_projectedDebt_60 : decode cX8_projectedDebt 60 = .ok (.invokevirtual 302, 3) := by decide +kernel
theorem dX8_projectedDebt_63 : decode cX8_projectedDebt 63 = .ok (.ladd, 1) := by decide +kernel
theorem dX8_projectedDebt_64 : decode cX8_projectedDebt 64 = .ok (.lstore_n 2, 1) := by decide +kernel
theorem dX8_projectedDebt_65 : decode cX8_projectedDebt 65 = .ok (.iconst 1, 1) := by decide +kernel
theorem dX8_projectedDebt_66 : decode cX8_projectedDebt 66 = .ok (.istore 4, 2) := by decide +kernel
theorem dX8_projectedDebt_68 : decode cX8_projectedDebt 68 = .ok (.iload 4, 2) := by decide +kernel
theorem dX8_projectedDebt_70 : decode cX8_projectedDebt 70 = .ok (.iload_n 1, 1) := by decide +kernel
theorem dX8_projectedDebt_71 : decode cX8_projectedDebt 71 = .ok (.if_icmp .ge 18, 3) := by decide +kernel
theorem dX8_projectedDebt_74 : decode cX8_projectedDebt 74 = .ok (.aload_n 0, 1) := by decide +kernel
theorem dX8_projectedDebt_75 : decode cX8_projectedDebt 75 = .ok (.getfield 26, 3) := by decide +kernel
theorem dX8_projectedDebt_78 : decode cX8_projectedDebt 78 = .ok (.lload_n 2, 1) := by decide +kernel
theorem dX8_projectedDebt_79 : decode cX8_projectedDebt 79 = .ok (.invokevirtual 305, 3) := by decide +kernel
theorem dX8_projectedDebt_82 : decode cX8_projectedDebt 82 = .ok (.lstore_n 2, 1) := by decide +kernel
theorem dX8_projectedDebt_83 : decode cX8_projectedDebt 83 = .ok (.iinc 4 1, 3) := by decide +kernel
theorem dX8_projectedDebt_86 : decode cX8_projectedDebt 86 = .ok (.goto (-18), 3) := by decide +kernel
theorem dX8_projectedDebt_89 : decode cX8_projectedDebt 89 = .ok (.lload_n 2, 1) := by decide +kernel
theorem dX8_projectedDebt_90 : decode cX8_projectedDebt 90 = .ok (.lreturn, 1) := by decide +kernel
theorem dX8_adjustment_0 : decode cX8_adjustment 0 = .ok (.aload_n 0, 1) := by decide +kernel
theorem dX8_adjustment_1 : decode cX8_adjustment 1 = .ok (.getfield 26, 3) := by decide +kernel
theorem dX8_adjustment_4 : decode cX8_adjustment 4 = .ok (.invokevirtual 309, 3) := by decide +kernel
theorem dX8_adjustment_7 : decode cX8_adjustment 7 = .ok (.lreturn, 1) := by decide +kernel
theorem dX8_close_0 : decode cX8_close 0 = .ok (.aload_n 0, 1) := by decide +kernel
theorem dX8_close_1 : decode cX8_close 1 = .ok (.getfield 26, 3) := by decide +kernel
theorem dX8_close_4 : decode cX8_close 4 = .ok (.getfield 67, 3) := by decide +kernel
theorem dX8_close_7 : decode cX8_close 7 = .ok (.iconst 3, 1) := by decide +kernel
theorem dX8_close_8 : decode cX8_close 8 = .ok (.if_icmp .ne 7, 3) := by decide +kernel
theorem dX8_close_11 : decode cX8_close 11 = .ok (.iconst 1, 1) := by decide +kernel
theorem dX8_close_12 : decode cX8_close 12 = .ok (.goto 4, 3) := by decide +kernel
theorem dX8_close_15 : decode cX8_close 15 = .ok (.iconst 0, 1) := by decide +kernel
theorem dX8_close_16 : decode cX8_close 16 = .ok (.invokestatic 37, 3) := by decide +kernel
theorem dX8_close_19 : decode cX8_close 19 = .ok (.aload_n 0, 1) := by decide +kernel
theorem dX8_close_20 : decode cX8_close 20 = .ok (.getfield 19, 3) := by decide +kernel
theorem dX8_close_23 : decode cX8_close 23 = .ok (.aload_n 0, 1) := by decide +kernel
theorem dX8_close_24 : decode cX8_close 24 = .ok (.getfield 26, 3) := by decide +kernel
theorem dX8_close_27 : decode cX8_close 27 = .ok (.invokevirtual 60, 3) := by decide +kernel
theorem dX8_close_30 : decode cX8_close 30 = .ok (.aload_n 0, 1) := by decide +kernel
theorem dX8_close_31 : decode cX8_close 31 = .ok (.getfield 26, 3) := by decide +kernel
theorem dX8_close_34 : decode cX8_close 34 = .ok (.invokevirtual 313, 3) := by decide +kernel
theorem dX8_close_37 : decode cX8_close 37 = .ok (.aload_n 0, 1) := by decide +kernel
theorem dX8_close_38 : decode cX8_close 38 = .ok (.getfield 26, 3) := by decide +kernel
theorem dX8_close_41 : decode cX8_close 41 = .ok (.getfield 227, 3) := by decide +kernel
theorem dX8_close_44 : decode cX8_close 44 = .ok (.getfield 298, 3) := by decide +kernel
theorem dX8_close_47 : decode cX8_close 47 = .ok (.lreturn, 1) := by decide +kernel
theorem dX8_remaining_0 : decode cX8_remaining 0 = .ok (.aload_n 0, 1) := by decide +kernel
theorem dX8_remaining_1 : decode cX8_remaining 1 = .ok (.iload_n 1, 1) := by decide +kernel
theorem dX8_remaining_2 : decode cX8_remaining 2 = .ok (.invokevirtual 161, 3) := by decide +kernel
theorem dX8_remaining_5 : decode cX8_remaining 5 = .ok (.invokestatic 103, 3) := by decide +kernel
theorem dX8_remaining_8 : decode cX8_remaining 8 = .ok (.aload_n 0, 1) := by decide +kernel
theorem dX8_remaining_9 : decode cX8_remaining 9 = .ok (.getfield 26, 3) := by decide +kernel
theorem dX8_remaining_12 : decode cX8_remaining 12 = .ok (.invokevirtual 236, 3) := by decide +kernel
theorem dX8_remaining_15 : decode cX8_remaining 15 = .ok (.invokestatic 37, 3) := by decide +kernel
theorem dX8_remaining_18 : decode cX8_remaining 18 = .ok (.aload_n 0, 1) := by decide +kernel
theorem dX8_remaining_19 : decode cX8_remaining 19 = .ok (.getfield 26, 3) := by decide +kernel
theorem dX8_remaining_22 : decode cX8_remaining 22 = .ok (.iload_n 1, 1) := by decide +kernel
theorem dX8_remaining_23 : decode cX8_remaining 23 = .ok (.invokevirtual 316, 3) := by decide +kernel
theorem dX8_remaining_26 : decode cX8_remaining 26 = .ok (.ireturn, 1) := by decide +kernel
theorem dX8_declareDefault_0 : decode cX8_declareDefault 0 = .ok (.aload_n 0, 1) := by decide +kernel
theorem dX8_declareDefault_1 : decode cX8_declareDefault 1 = .ok (.getfield 26, 3) := by decide +kernel
theorem dX8_declareDefault_4 : decode cX8_declareDefault 4 = .ok (.getfield 67, 3) := by decide +kernel
theorem dX8_declareDefault_7 : decode cX8_declareDefault 7 = .ok (.iconst 3, 1) := by decide +kernel
theorem dX8_declareDefault_8 : decode cX8_declareDefault 8 = .ok (.if_icmp .ne 17, 3) := by decide +kernel
theorem dX8_declareDefault_11 : decode cX8_declareDefault 11 = .ok (.aload_n 0, 1) := by decide +kernel
theorem dX8_declareDefault_12 : decode cX8_declareDefault 12 = .ok (.getfield 26, 3) := by decide +kernel
theorem dX8_declareDefault_15 : decode cX8_declareDefault 15 = .ok (.invokevirtual 319, 3) := by decide +kernel
theorem dX8_declareDefault_18 : decode cX8_declareDefault 18 = .ok (.ifCond .eq 7, 3) := by decide +kernel
theorem dX8_declareDefault_21 : decode cX8_declareDefault 21 = .ok (.iconst 1, 1) := by decide +kernel
theorem dX8_declareDefault_22 : decode cX8_declareDefault 22 = .ok (.goto 4, 3) := by decide +kernel
theorem dX8_declareDefault_25 : decode cX8_declareDefault 25 = .ok (.iconst 0, 1) := by decide +kernel
theorem dX8_declareDefault_26 : decode cX8_declareDefault 26 = .ok (.invokestatic 37, 3) := by decide +kernel
theorem dX8_declareDefault_29 : decode cX8_declareDefault 29 = .ok (.aload_n 0, 1) := by decide +kernel
theorem dX8_declareDefault_30 : decode cX8_declareDefault 30 = .ok (.getfield 19, 3) := by decide +kernel
theorem dX8_declareDefault_33 : decode cX8_declareDefault 33 = .ok (.aload_n 0, 1) := by decide +kernel
theorem dX8_declareDefault_34 : decode cX8_declareDefault 34 = .ok (.getfield 26, 3) := by decide +kernel
theorem dX8_declareDefault_37 : decode cX8_declareDefault 37 = .ok (.invokevirtual 60, 3) := by decide +kernel
theorem dX8_declareDefault_40 : decode cX8_declareDefault 40 = .ok (.aload_n 0, 1) := by decide +kernel
theorem dX8_declareDefault_41 : decode cX8_declareDefault 41 = .ok (.getfield 26, 3) := by decide +kernel
theorem dX8_declareDefault_44 : decode cX8_declareDefault 44 = .ok (.iconst 5, 1) := by decide +kernel
theorem dX8_declareDefault_45 : decode cX8_declareDefault 45 = .ok (.putfield 67, 3) := by decide +kernel
theorem dX8_declareDefault_48 : decode cX8_declareDefault 48 = .ok (.aload_n 0, 1) := by decide +kernel
theorem dX8_declareDefault_49 : decode cX8_declareDefault 49 = .ok (.getfield 26, 3) := by decide +kernel
theorem dX8_declareDefault_52 : decode cX8_declareDefault 52 = .ok (.invokevirtual 322, 3) := by decide +kernel
theorem dX8_declareDefault_55 : decode cX8_declareDefault 55 = .ok (.ireturn, 1) := by decide +kernel
theorem dX8_damages_0 : decode cX8_damages 0 = .ok (.aload_n 0, 1) := by decide +kernel
theorem dX8_damages_1 : decode cX8_damages 1 = .ok (.getfield 26, 3) := by decide +kernel
theorem dX8_damages_4 : decode cX8_damages 4 = .ok (.getfield 67, 3) := by decide +kernel
theorem dX8_damages_7 : decode cX8_damages 7 = .ok (.bipush 8, 2) := by decide +kernel
theorem dX8_damages_9 : decode cX8_damages 9 = .ok (.if_icmp .ne 7, 3) := by decide +kernel
theorem dX8_damages_12 : decode cX8_damages 12 = .ok (.iconst 1, 1) := by decide +kernel
theorem dX8_damages_13 : decode cX8_damages 13 = .ok (.goto 4, 3) := by decide +kernel
theorem dX8_damages_16 : decode cX8_damages 16 = .ok (.iconst 0, 1) := by decide +kernel
theorem dX8_damages_17 : decode cX8_damages 17 = .ok (.invokestatic 37, 3) := by decide +kernel
theorem dX8_damages_20 : decode cX8_damages 20 = .ok (.aload_n 0, 1) := by decide +kernel
theorem dX8_damages_21 : decode cX8_damages 21 = .ok (.getfield 26, 3) := by decide +kernel
theorem dX8_damages_24 : decode cX8_damages 24 = .ok (.invokevirtual 325, 3) := by decide +kernel
theorem dX8_damages_27 : decode cX8_damages 27 = .ok (.lreturn, 1) := by decide +kernel
theorem dX8_undo_0 : decode cX8_undo 0 = .ok (.aload_n 0, 1) := by decide +kernel
theorem dX8_undo_1 : decode cX8_undo 1 = .ok (.getfield 19, 3) := by decide +kernel
theorem dX8_undo_4 : decode cX8_undo 4 = .ok (.getfield 328, 3) := by decide +kernel
theorem dX8_undo_7 : decode cX8_undo 7 = .ok (.ifCond .le 7, 3) := by decide +kernel
theorem dX8_undo_10 : decode cX8_undo 10 = .ok (.iconst 1, 1) := by decide +kernel
theorem dX8_undo_11 : decode cX8_undo 11 = .ok (.goto 4, 3) := by decide +kernel
theorem dX8_undo_14 : decode cX8_undo 14 = .ok (.iconst 0, 1) := by decide +kernel
theorem dX8_undo_15 : decode cX8_undo 15 = .ok (.invokestatic 37, 3) := by decide +kernel
theorem dX8_undo_18 : decode cX8_undo 18 = .ok (.aload_n 0, 1) := by decide +kernel
theorem dX8_undo_19 : decode cX8_undo 19 = .ok (.aload_n 0, 1) := by decide +kernel
theorem dX8_undo_20 : decode cX8_undo 20 = .ok (.getfield 19, 3) := by decide +kernel
theorem dX8_undo_23 : decode cX8_undo 23 = .ok (.aload_n 0, 1) := by decide +kernel
theorem dX8_undo_24 : decode cX8_undo 24 = .ok (.getfield 26, 3) := by decide +kernel
theorem dX8_undo_27 : decode cX8_undo 27 = .ok (.invokevirtual 331, 3) := by decide +kernel
theorem dX8_undo_30 : decode cX8_undo 30 = .ok (.putfield 26, 3) := by decide +kernel
theorem dX8_undo_33 : decode cX8_undo 33 = .ok (.aload_n 0, 1) := by decide +kernel
theorem dX8_undo_34 : decode cX8_undo 34 = .ok (.getfield 19, 3) := by decide +kernel
theorem dX8_undo_37 : decode cX8_undo 37 = .ok (.getfield 328, 3) := by decide +kernel
theorem dX8_undo_40 : decode cX8_undo 40 = .ok (.ireturn, 1) := by decide +kernel
theorem dX8_requireExisting_0 : decode cX8_requireExisting 0 = .ok (.iload_n 0, 1) := by decide +kernel
theorem dX8_requireExisting_1 : decode cX8_requireExisting 1 = .ok (.ifCond .ne 14, 3) := by decide +kernel
theorem dX8_requireExisting_4 : decode cX8_requireExisting 4 = .ok (.new 335, 3) := by decide +kernel
theorem dX8_requireExisting_7 : decode cX8_requireExisting 7 = .ok (.dup, 1) := by decide +kernel
theorem dX8_requireExisting_8 : decode cX8_requireExisting 8 = .ok (.ldc_w 337, 3) := by decide +kernel
theorem dX8_requireExisting_11 : decode cX8_requireExisting 11 = .ok (.invokespecial 339, 3) := by decide +kernel
theorem dX8_requireExisting_14 : decode cX8_requireExisting 14 = .ok (.athrow, 1) := by decide +kernel
theorem dX8_requireExisting_15 : decode cX8_requireExisting 15 = .ok (.return_, 1) := by decide +kernel
theorem dX8_requireArgument_0 : decode cX8_requireArgument 0 = .ok (.iload_n 0, 1) := by decide +kernel
theorem dX8_requireArgument_1 : decode cX8_requireArgument 1 = .ok (.ifCond .ne 14, 3) := by decide +kernel
theorem dX8_requireArgument_4 : decode cX8_requireArgument 4 = .ok (.new 342, 3) := by decide +kernel
theorem dX8_requireArgument_7 : decode cX8_requireArgument 7 = .ok (.dup, 1) := by decide +kernel
theorem dX8_requireArgument_8 : decode cX8_requireArgument 8 = .ok (.ldc_w 344, 3) := by decide +kernel
theorem dX8_requireArgument_11 : decode cX8_requireArgument 11 = .ok (.invokespecial 346, 3) := by decide +kernel
theorem dX8_requireArgument_14 : decode cX8_requireArgument 14 = .ok (.athrow, 1) := by decide +kernel
theorem dX8_requireArgument_15 : decode cX8_requireArgument 15 = .ok (.return_, 1) := by decide +kernel
theorem dX8_requireState_0 : decode cX8_requireState 0 = .ok (.iload_n 0, 1) := by decide +kernel
theorem dX8_requireState_1 : decode cX8_requireState 1 = .ok (.ifCond .ne 14, 3) := by decide +kernel
theorem dX8_requireState_4 : decode cX8_requireState 4 = .ok (.new 347, 3) := by decide +kernel
theorem dX8_requireState_7 : decode cX8_requireState 7 = .ok (.dup, 1) := by decide +kernel
theorem dX8_requireState_8 : decode cX8_requireState 8 = .ok (.ldc_w 349, 3) := by decide +kernel
theorem dX8_requireState_11 : decode cX8_requireState 11 = .ok (.invokespecial 351, 3) := by decide +kernel
theorem dX8_requireState_14 : decode cX8_requireState 14 = .ok (.athrow, 1) := by decide +kernel
theorem dX8_requireState_15 : decode cX8_requireState 15 = .ok (.return_, 1) := by decide +kernel
theorem dX8_requireFound_0 : decode cX8_requireFound 0 = .ok (.iload_n 0, 1) := by decide +kernel
theorem dX8_requireFound_1 : decode cX8_requireFound 1 = .ok (.ifCond .ne 14, 3) := by decide +kernel
theorem dX8_requireFound_4 : decode cX8_requireFound 4 = .ok (.new 352, 3) := by decide +kernel
theorem dX8_requireFound_7 : decode cX8_requireFound 7 = .ok (.dup, 1) := by decide +kernel
theorem dX8_requireFound_8 : decode cX8_requireFound 8 = .ok (.ldc_w 354, 3) := by decide +kernel
theorem dX8_requireFound_11 : decode cX8_requireFound 11 = .ok (.invokespecial 356, 3) := by decide +kernel
theorem dX8_requireFound_14 : decode cX8_requireFound 14 = .ok (.athrow, 1) := by decide +kernel
theorem dX8_requireFound_15 : decode cX8_requireFound 15 = .ok (.return_, 1) := by decide +kernel
theorem dX8_requireAccuracyQuestion_0 : decode cX8_requireAccuracyQuestion 0 = .ok (.aload_n 0, 1) := by decide +kernel
theorem dX8_requireAccuracyQuestion_1 : decode cX8_requireAccuracyQuestion 1 = .ok (.iload_n 1, 1) := by decide +kernel
theorem dX8_requireAccuracyQuestion_2 : decode cX8_requireAccuracyQuestion 2 = .ok (.invokevirtual 109, 3) := by decide +kernel
theorem dX8_requireAccuracyQuestion_5 : decode cX8_requireAccuracyQuestion 5 = .ok (.invokestatic 103, 3) := by decide +kernel
theorem dX8_requireAccuracyQuestion_8 : decode cX8_requireAccuracyQuestion 8 = .ok (.iload_n 2, 1) := by decide +kernel
theorem dX8_requireAccuracyQuestion_9 : decode cX8_requireAccuracyQuestion 9 = .ok (.iconst 1, 1) := by decide +kernel
theorem dX8_requireAccuracyQuestion_10 : decode cX8_requireAccuracyQuestion 10 = .ok (.bipush 20, 2) := by decide +kernel
theorem dX8_requireAccuracyQuestion_12 : decode cX8_requireAccuracyQuestion 12 = .ok (.invokestatic 49, 3) := by decide +kernel
theorem dX8_requireAccuracyQuestion_15 : decode cX8_requireAccuracyQuestion 15 = .ok (.invokestatic 53, 3) := by decide +kernel
theorem dX8_requireAccuracyQuestion_18 : decode cX8_requireAccuracyQuestion 18 = .ok (.aload_n 0, 1) := by decide +kernel
theorem dX8_requireAccuracyQuestion_19 : decode cX8_requireAccuracyQuestion 19 = .ok (.getfield 26, 3) := by decide +kernel
theorem dX8_requireAccuracyQuestion_22 : decode cX8_requireAccuracyQuestion 22 = .ok (.getfield 70, 3) := by decide +kernel
theorem dX8_requireAccuracyQuestion_25 : decode cX8_requireAccuracyQuestion 25 = .ok (.getfield 74, 3) := by decide +kernel
theorem dX8_requireAccuracyQuestion_28 : decode cX8_requireAccuracyQuestion 28 = .ok (.iconst 2, 1) := by decide +kernel
theorem dX8_requireAccuracyQuestion_29 : decode cX8_requireAccuracyQuestion 29 = .ok (.if_icmp .lt 7, 3) := by decide +kernel
theorem dX8_requireAccuracyQuestion_32 : decode cX8_requireAccuracyQuestion 32 = .ok (.iconst 1, 1) := by decide +kernel
theorem dX8_requireAccuracyQuestion_33 : decode cX8_requireAccuracyQuestion 33 = .ok (.goto 4, 3) := by decide +kernel
theorem dX8_requireAccuracyQuestion_36 : decode cX8_requireAccuracyQuestion 36 = .ok (.iconst 0, 1) := by decide +kernel
theorem dX8_requireAccuracyQuestion_37 : decode cX8_requireAccuracyQuestion 37 = .ok (.invokestatic 37, 3) := by decide +kernel
theorem dX8_requireAccuracyQuestion_40 : decode cX8_requireAccuracyQuestion 40 = .ok (.return_, 1) := by decide +kernel
theorem dX8_isIn_0 : decode cX8_isIn 0 = .ok (.iload_n 0, 1) := by decide +kernel
theorem dX8_isIn_1 : decode cX8_isIn 1 = .ok (.iload_n 1, 1) := by decide +kernel
theorem dX8_isIn_2 : decode cX8_isIn 2 = .ok (.if_icmp .lt 12, 3) := by decide +kernel
theorem dX8_isIn_5 : decode cX8_isIn 5 = .ok (.iload_n 0, 1) := by decide +kernel
theorem dX8_isIn_6 : decode cX8_isIn 6 = .ok (.iload_n 2, 1) := by decide +kernel
theorem dX8_isIn_7 : decode cX8_isIn 7 = .ok (.if_icmp .gt 7, 3) := by decide +kernel
theorem dX8_isIn_10 : decode cX8_isIn 10 = .ok (.iconst 1, 1) := by decide +kernel
theorem dX8_isIn_11 : decode cX8_isIn 11 = .ok (.goto 4, 3) := by decide +kernel
theorem dX8_isIn_14 : decode cX8_isIn 14 = .ok (.iconst 0, 1) := by decide +kernel
theorem dX8_isIn_15 : decode cX8_isIn 15 = .ok (.ireturn, 1) := by decide +kernel
theorem dX8_isSpecies_0 : decode cX8_isSpecies 0 = .ok (.iload_n 1, 1) := by decide +kernel
theorem dX8_isSpecies_1 : decode cX8_isSpecies 1 = .ok (.iconst 0, 1) := by decide +kernel
theorem dX8_isSpecies_2 : decode cX8_isSpecies 2 = .ok (.aload_n 0, 1) := by decide +kernel
theorem dX8_isSpecies_3 : decode cX8_isSpecies 3 = .ok (.getfield 26, 3) := by decide +kernel
theorem dX8_isSpecies_6 : decode cX8_isSpecies 6 = .ok (.getfield 83, 3) := by decide +kernel
theorem dX8_isSpecies_9 : decode cX8_isSpecies 9 = .ok (.getfield 139, 3) := by decide +kernel
theorem dX8_isSpecies_12 : decode cX8_isSpecies 12 = .ok (.iconst 1, 1) := by decide +kernel
theorem dX8_isSpecies_13 : decode cX8_isSpecies 13 = .ok (.isub, 1) := by decide +kernel
theorem dX8_isSpecies_14 : decode cX8_isSpecies 14 = .ok (.invokestatic 49, 3) := by decide +kernel
theorem dX8_isSpecies_17 : decode cX8_isSpecies 17 = .ok (.ireturn, 1) := by decide +kernel
theorem dX8_isSpeciesOrNone_0 : decode cX8_isSpeciesOrNone 0 = .ok (.iload_n 1, 1) := by decide +kernel
theorem dX8_isSpeciesOrNone_1 : decode cX8_isSpeciesOrNone 1 = .ok (.iconst (-1), 1) := by decide +kernel
theorem dX8_isSpeciesOrNone_2 : decode cX8_isSpeciesOrNone 2 = .ok (.if_icmp .eq 11, 3) := by decide +kernel
theorem dX8_isSpeciesOrNone_5 : decode cX8_isSpeciesOrNone 5 = .ok (.aload_n 0, 1) := by decide +kernel
theorem dX8_isSpeciesOrNone_6 : decode cX8_isSpeciesOrNone 6 = .ok (.iload_n 1, 1) := by decide +kernel
theorem dX8_isSpeciesOrNone_7 : decode cX8_isSpeciesOrNone 7 = .ok (.invokevirtual 161, 3) := by decide +kernel
theorem dX8_isSpeciesOrNone_10 : decode cX8_isSpeciesOrNone 10 = .ok (.ifCond .eq 7, 3) := by decide +kernel
theorem dX8_isSpeciesOrNone_13 : decode cX8_isSpeciesOrNone 13 = .ok (.iconst 1, 1) := by decide +kernel
theorem dX8_isSpeciesOrNone_14 : decode cX8_isSpeciesOrNone 14 = .ok (.goto 4, 3) := by decide +kernel
theorem dX8_isSpeciesOrNone_17 : decode cX8_isSpeciesOrNone 17 = .ok (.iconst 0, 1) := by decide +kernel
theorem dX8_isSpeciesOrNone_18 : decode cX8_isSpeciesOrNone 18 = .ok (.ireturn, 1) := by decide +kernel
theorem dX8_isBidder_0 : decode cX8_isBidder 0 = .ok (.iload_n 0, 1) := by decide +kernel
theorem dX8_isBidder_1 : decode cX8_isBidder 1 = .ok (.iconst 0, 1) := by decide +kernel
theorem dX8_isBidder_2 : decode cX8_isBidder 2 = .ok (.bipush 7, 2) := by decide +kernel
theorem dX8_isBidder_4 : decode cX8_isBidder 4 = .ok (.invokestatic 49, 3) := by decide +kernel
theorem dX8_isBidder_7 : decode cX8_isBidder 7 = .ok (.ireturn, 1) := by decide +kernel
theorem dX8_isQuarter_0 : decode cX8_isQuarter 0 = .ok (.iload_n 0, 1) := by decide +kernel
theorem dX8_isQuarter_1 : decode cX8_isQuarter 1 = .ok (.iconst 0, 1) := by decide +kernel
theorem dX8_isQuarter_2 : decode cX8_isQuarter 2 = .ok (.bipush 11, 2) := by decide +kernel
theorem dX8_isQuarter_4 : decode cX8_isQuarter 4 = .ok (.invokestatic 49, 3) := by decide +kernel
theorem dX8_isQuarter_7 : decode cX8_isQuarter 7 = .ok (.ireturn, 1) := by decide +kernel
theorem dX8_isLoad_0 : decode cX8_isLoad 0 = .ok (.iload_n 1, 1) := by decide +kernel
theorem dX8_isLoad_1 : decode cX8_isLoad 1 = .ok (.iconst 0, 1) := by decide +kernel
theorem dX8_isLoad_2 : decode cX8_isLoad 2 = .ok (.aload_n 0, 1) := by decide +kernel
theorem dX8_isLoad_3 : decode cX8_isLoad 3 = .ok (.getfield 26, 3) := by decide +kernel
theorem dX8_isLoad_6 : decode cX8_isLoad 6 = .ok (.getfield 245, 3) := by decide +kernel
theorem dX8_isLoad_9 : decode cX8_isLoad 9 = .ok (.getfield 249, 3) := by decide +kernel
theorem dX8_isLoad_12 : decode cX8_isLoad 12 = .ok (.iconst 1, 1) := by decide +kernel
theorem dX8_isLoad_13 : decode cX8_isLoad 13 = .ok (.isub, 1) := by decide +kernel
theorem dX8_isLoad_14 : decode cX8_isLoad 14 = .ok (.invokestatic 49, 3) := by decide +kernel
theorem dX8_isLoad_17 : decode cX8_isLoad 17 = .ok (.ireturn, 1) := by decide +kernel
theorem dX8_fitsPlot_0 : decode cX8_fitsPlot 0 = .ok (.iload_n 2, 1) := by decide +kernel
theorem dX8_fitsPlot_1 : decode cX8_fitsPlot 1 = .ok (.iconst 0, 1) := by decide +kernel
theorem dX8_fitsPlot_2 : decode cX8_fitsPlot 2 = .ok (.aload_n 0, 1) := by decide +kernel
theorem dX8_fitsPlot_3 : decode cX8_fitsPlot 3 = .ok (.iload_n 1, 1) := by decide +kernel
theorem dX8_fitsPlot_4 : decode cX8_fitsPlot 4 = .ok (.invokevirtual 161, 3) := by decide +kernel
theorem dX8_fitsPlot_7 : decode cX8_fitsPlot 7 = .ok (.ifCond .eq 9, 3) := by decide +kernel
theorem dX8_fitsPlot_10 : decode cX8_fitsPlot 10 = .ok (.sipush 500, 3) := by decide +kernel
theorem dX8_fitsPlot_13 : decode cX8_fitsPlot 13 = .ok (.goto 4, 3) := by decide +kernel
theorem dX8_fitsPlot_16 : decode cX8_fitsPlot 16 = .ok (.iconst 0, 1) := by decide +kernel
theorem dX8_fitsPlot_17 : decode cX8_fitsPlot 17 = .ok (.invokestatic 49, 3) := by decide +kernel
theorem dX8_fitsPlot_20 : decode cX8_fitsPlot 20 = .ok (.ireturn, 1) := by decide +kernel
theorem dX8_netVolume_0 : decode cX8_netVolume 0 = .ok (.iload_n 0, 1) := by decide +kernel
theorem dX8_netVolume_1 : decode cX8_netVolume 1 = .ok (.bipush 100, 2) := by decide +kernel
theorem dX8_netVolume_3 : decode cX8_netVolume 3 = .ok (.iload_n 1, 1) := by decide +kernel
theorem dX8_netVolume_4 : decode cX8_netVolume 4 = .ok (.isub, 1) := by decide +kernel
theorem dX8_netVolume_5 : decode cX8_netVolume 5 = .ok (.imul, 1) := by decide +kernel
theorem dX8_netVolume_6 : decode cX8_netVolume 6 = .ok (.bipush 50, 2) := by decide +kernel
theorem dX8_netVolume_8 : decode cX8_netVolume 8 = .ok (.iadd, 1) := by decide +kernel
theorem dX8_netVolume_9 : decode cX8_netVolume 9 = .ok (.bipush 100, 2) := by decide +kernel
theorem dX8_netVolume_11 : decode cX8_netVolume 11 = .ok (.idiv, 1) := by decide +kernel
theorem dX8_netVolume_12 : decode cX8_netVolume 12 = .ok (.ireturn, 1) := by decide +kernel
theorem dX8_sum_0 : decode cX8_sum 0 = .ok (.iconst 0, 1) := by decide +kernel
theorem dX8_sum_1 : decode cX8_sum 1 = .ok (.istore_n 1, 1) := by decide +kernel
theorem dX8_sum_2 : decode cX8_sum 2 = .ok (.aload_n 0, 1) := by decide +kernel
theorem dX8_sum_3 : decode cX8_sum 3 = .ok (.astore_n 2, 1) := by decide +kernel
theorem dX8_sum_4 : decode cX8_sum 4 = .ok (.aload_n 2, 1) := by decide +kernel
theorem dX8_sum_5 : decode cX8_sum 5 = .ok (.arraylength, 1) := by decide +kernel
theorem dX8_sum_6 : decode cX8_sum 6 = .ok (.istore_n 3, 1) := by decide +kernel
theorem dX8_sum_7 : decode cX8_sum 7 = .ok (.iconst 0, 1) := by decide +kernel
theorem dX8_sum_8 : decode cX8_sum 8 = .ok (.istore 4, 2) := by decide +kernel
theorem dX8_sum_10 : decode cX8_sum 10 = .ok (.iload 4, 2) := by decide +kernel
theorem dX8_sum_12 : decode cX8_sum 12 = .ok (.iload_n 3, 1) := by decide +kernel
theorem dX8_sum_13 : decode cX8_sum 13 = .ok (.if_icmp .ge 20, 3) := by decide +kernel
theorem dX8_sum_16 : decode cX8_sum 16 = .ok (.aload_n 2, 1) := by decide +kernel
theorem dX8_sum_17 : decode cX8_sum 17 = .ok (.iload 4, 2) := by decide +kernel
theorem dX8_sum_19 : decode cX8_sum 19 = .ok (.iaload, 1) := by decide +kernel
theorem dX8_sum_20 : decode cX8_sum 20 = .ok (.istore 5, 2) := by decide +kernel
theorem dX8_sum_22 : decode cX8_sum 22 = .ok (.iload_n 1, 1) := by decide +kernel
theorem dX8_sum_23 : decode cX8_sum 23 = .ok (.iload 5, 2) := by decide +kernel
theorem dX8_sum_25 : decode cX8_sum 25 = .ok (.iadd, 1) := by decide +kernel
theorem dX8_sum_26 : decode cX8_sum 26 = .ok (.istore_n 1, 1) := by decide +kernel
theorem dX8_sum_27 : decode cX8_sum 27 = .ok (.iinc 4 1, 3) := by decide +kernel
theorem dX8_sum_30 : decode cX8_sum 30 = .ok (.goto (-20), 3) := by decide +kernel
theorem dX8_sum_33 : decode cX8_sum 33 = .ok (.iload_n 1, 1) := by decide +kernel
theorem dX8_sum_34 : decode cX8_sum 34 = .ok (.ireturn, 1) := by decide +kernel
theorem dX8_lowestTerms_0 : decode cX8_lowestTerms 0 = .ok (.lload_n 0, 1) := by decide +kernel
theorem dX8_lowestTerms_1 : decode cX8_lowestTerms 1 = .ok (.lload_n 2, 1) := by decide +kernel
theorem dX8_lowestTerms_2 : decode cX8_lowestTerms 2 = .ok (.invokestatic 357, 3) := by decide +kernel
theorem dX8_lowestTerms_5 : decode cX8_lowestTerms 5 = .ok (.lstore 5, 2) := by decide +kernel
theorem dX8_lowestTerms_7 : decode cX8_lowestTerms 7 = .ok (.lload 5, 2) := by decide +kernel
theorem dX8_lowestTerms_9 : decode cX8_lowestTerms 9 = .ok (.lconst 0, 1) := by decide +kernel
theorem dX8_lowestTerms_10 : decode cX8_lowestTerms 10 = .ok (.lcmp, 1) := by decide +kernel
theorem dX8_lowestTerms_11 : decode cX8_lowestTerms 11 = .ok (.ifCond .ne 14, 3) := by decide +kernel
theorem dX8_lowestTerms_14 : decode cX8_lowestTerms 14 = .ok (.iload 4, 2) := by decide +kernel
theorem dX8_lowestTerms_16 : decode cX8_lowestTerms 16 = .ok (.ifCond .eq 7, 3) := by decide +kernel
theorem dX8_lowestTerms_19 : decode cX8_lowestTerms 19 = .ok (.lconst 1, 1) := by decide +kernel
theorem dX8_lowestTerms_20 : decode cX8_lowestTerms 20 = .ok (.goto 4, 3) := by decide +kernel
theorem dX8_lowestTerms_23 : decode cX8_lowestTerms 23 = .ok (.lconst 0, 1) := by decide +kernel
theorem dX8_lowestTerms_24 : decode cX8_lowestTerms 24 = .ok (.lreturn, 1) := by decide +kernel
theorem dX8_lowestTerms_25 : decode cX8_lowestTerms 25 = .ok (.iload 4, 2) := by decide +kernel
theorem dX8_lowestTerms_27 : decode cX8_lowestTerms 27 = .ok (.ifCond .eq 7, 3) := by decide +kernel
theorem dX8_lowestTerms_30 : decode cX8_lowestTerms 30 = .ok (.lload_n 2, 1) := by decide +kernel
theorem dX8_lowestTerms_31 : decode cX8_lowestTerms 31 = .ok (.goto 4, 3) := by decide +kernel
theorem dX8_lowestTerms_34 : decode cX8_lowestTerms 34 = .ok (.lload_n 0, 1) := by decide +kernel
theorem dX8_lowestTerms_35 : decode cX8_lowestTerms 35 = .ok (.lload 5, 2) := by decide +kernel
theorem dX8_lowestTerms_37 : decode cX8_lowestTerms 37 = .ok (.ldiv, 1) := by decide +kernel
theorem dX8_lowestTerms_38 : decode cX8_lowestTerms 38 = .ok (.lreturn, 1) := by decide +kernel
theorem dX8_commonDivisor_0 : decode cX8_commonDivisor 0 = .ok (.lload_n 0, 1) := by decide +kernel
theorem dX8_commonDivisor_1 : decode cX8_commonDivisor 1 = .ok (.lstore 4, 2) := by decide +kernel
theorem dX8_commonDivisor_3 : decode cX8_commonDivisor 3 = .ok (.lload_n 2, 1) := by decide +kernel
theorem dX8_commonDivisor_4 : decode cX8_commonDivisor 4 = .ok (.lstore 6, 2) := by decide +kernel
theorem dX8_commonDivisor_6 : decode cX8_commonDivisor 6 = .ok (.iconst 0, 1) := by decide +kernel
theorem dX8_commonDivisor_7 : decode cX8_commonDivisor 7 = .ok (.istore 8, 2) := by decide +kernel
theorem dX8_commonDivisor_9 : decode cX8_commonDivisor 9 = .ok (.iload 8, 2) := by decide +kernel
theorem dX8_commonDivisor_11 : decode cX8_commonDivisor 11 = .ok (.bipush 100, 2) := by decide +kernel
theorem dX8_commonDivisor_13 : decode cX8_commonDivisor 13 = .ok (.if_icmp .ge 31, 3) := by decide +kernel
theorem dX8_commonDivisor_16 : decode cX8_commonDivisor 16 = .ok (.lload 6, 2) := by decide +kernel
theorem dX8_commonDivisor_18 : decode cX8_commonDivisor 18 = .ok (.lconst 0, 1) := by decide +kernel
theorem dX8_commonDivisor_19 : decode cX8_commonDivisor 19 = .ok (.lcmp, 1) := by decide +kernel
theorem dX8_commonDivisor_20 : decode cX8_commonDivisor 20 = .ok (.ifCond .eq 24, 3) := by decide +kernel
theorem dX8_commonDivisor_23 : decode cX8_commonDivisor 23 = .ok (.lload 4, 2) := by decide +kernel
theorem dX8_commonDivisor_25 : decode cX8_commonDivisor 25 = .ok (.lload 6, 2) := by decide +kernel
theorem dX8_commonDivisor_27 : decode cX8_commonDivisor 27 = .ok (.lrem, 1) := by decide +kernel
theorem dX8_commonDivisor_28 : decode cX8_commonDivisor 28 = .ok (.lstore 9, 2) := by decide +kernel
theorem dX8_commonDivisor_30 : decode cX8_commonDivisor 30 = .ok (.lload 6, 2) := by decide +kernel
theorem dX8_commonDivisor_32 : decode cX8_commonDivisor 32 = .ok (.lstore 4, 2) := by decide +kernel
theorem dX8_commonDivisor_34 : decode cX8_commonDivisor 34 = .ok (.lload 9, 2) := by decide +kernel
theorem dX8_commonDivisor_36 : decode cX8_commonDivisor 36 = .ok (.lstore 6, 2) := by decide +kernel
theorem dX8_commonDivisor_38 : decode cX8_commonDivisor 38 = .ok (.iinc 8 1, 3) := by decide +kernel
theorem dX8_commonDivisor_41 : decode cX8_commonDivisor 41 = .ok (.goto (-32), 3) := by decide +kernel
theorem dX8_commonDivisor_44 : decode cX8_commonDivisor 44 = .ok (.lload 4, 2) := by decide +kernel
theorem dX8_commonDivisor_46 : decode cX8_commonDivisor 46 = .ok (.lreturn, 1) := by decide +kernel
theorem dX8_copy_0 : decode cX8_copy 0 = .ok (.aload_n 0, 1) := by decide +kernel
theorem dX8_copy_1 : decode cX8_copy 1 = .ok (.iconst 0, 1) := by decide +kernel
theorem dX8_copy_2 : decode cX8_copy 2 = .ok (.aload_n 1, 1) := by decide +kernel
theorem dX8_copy_3 : decode cX8_copy 3 = .ok (.iconst 0, 1) := by decide +kernel
theorem dX8_copy_4 : decode cX8_copy 4 = .ok (.aload_n 0, 1) := by decide +kernel
theorem dX8_copy_5 : decode cX8_copy 5 = .ok (.arraylength, 1) := by decide +kernel
theorem dX8_copy_6 : decode cX8_copy 6 = .ok (.aload_n 1, 1) := by decide +kernel
theorem dX8_copy_7 : decode cX8_copy 7 = .ok (.arraylength, 1) := by decide +kernel
theorem dX8_copy_8 : decode cX8_copy 8 = .ok (.invokestatic 93, 3) := by decide +kernel
theorem dX8_copy_11 : decode cX8_copy 11 = .ok (.invokestatic 361, 3) := by decide +kernel
theorem dX8_copy_14 : decode cX8_copy 14 = .ok (.return_, 1) := by decide +kernel
