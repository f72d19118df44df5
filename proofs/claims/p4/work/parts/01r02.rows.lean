theorem dX4_isNew_30 : decode cX4_isNew 30 = .ok (.iload_n 1, 1) := by decide +kernel
theorem dX4_isNew_31 : decode cX4_isNew 31 = .ok (.aload_n 0, 1) := by decide +kernel
theorem dX4_isNew_32 : decode cX4_isNew 32 = .ok (.getfield 18, 3) := by decide +kernel
theorem dX4_isNew_35 : decode cX4_isNew 35 = .ok (.iastore, 1) := by decide +kernel
theorem dX4_isNew_36 : decode cX4_isNew 36 = .ok (.iconst 1, 1) := by decide +kernel
theorem dX4_isNew_37 : decode cX4_isNew 37 = .ok (.ireturn, 1) := by decide +kernel
theorem dX5_init_0 : decode cX5_init 0 = .ok (.aload_n 0, 1) := by decide +kernel
theorem dX5_init_1 : decode cX5_init 1 = .ok (.invokespecial 3, 3) := by decide +kernel
theorem dX5_init_4 : decode cX5_init 4 = .ok (.aload_n 0, 1) := by decide +kernel
theorem dX5_init_5 : decode cX5_init 5 = .ok (.bipush 12, 2) := by decide +kernel
theorem dX5_init_7 : decode cX5_init 7 = .ok (.newarray .int, 2) := by decide +kernel
theorem dX5_init_9 : decode cX5_init 9 = .ok (.putfield 9, 3) := by decide +kernel
theorem dX5_init_12 : decode cX5_init 12 = .ok (.return_, 1) := by decide +kernel
theorem dX5_begin_0 : decode cX5_begin 0 = .ok (.aload_n 0, 1) := by decide +kernel
theorem dX5_begin_1 : decode cX5_begin 1 = .ok (.iconst 0, 1) := by decide +kernel
theorem dX5_begin_2 : decode cX5_begin 2 = .ok (.iload_n 1, 1) := by decide +kernel
theorem dX5_begin_3 : decode cX5_begin 3 = .ok (.bipush 12, 2) := by decide +kernel
theorem dX5_begin_5 : decode cX5_begin 5 = .ok (.invokestatic 15, 3) := by decide +kernel
theorem dX5_begin_8 : decode cX5_begin 8 = .ok (.invokestatic 21, 3) := by decide +kernel
theorem dX5_begin_11 : decode cX5_begin 11 = .ok (.putfield 24, 3) := by decide +kernel
theorem dX5_begin_14 : decode cX5_begin 14 = .ok (.iconst 0, 1) := by decide +kernel
theorem dX5_begin_15 : decode cX5_begin 15 = .ok (.istore_n 3, 1) := by decide +kernel
theorem dX5_begin_16 : decode cX5_begin 16 = .ok (.iload_n 3, 1) := by decide +kernel
theorem dX5_begin_17 : decode cX5_begin 17 = .ok (.aload_n 0, 1) := by decide +kernel
theorem dX5_begin_18 : decode cX5_begin 18 = .ok (.getfield 24, 3) := by decide +kernel
theorem dX5_begin_21 : decode cX5_begin 21 = .ok (.if_icmp .ge 16, 3) := by decide +kernel
theorem dX5_begin_24 : decode cX5_begin 24 = .ok (.aload_n 0, 1) := by decide +kernel
theorem dX5_begin_25 : decode cX5_begin 25 = .ok (.getfield 9, 3) := by decide +kernel
theorem dX5_begin_28 : decode cX5_begin 28 = .ok (.iload_n 3, 1) := by decide +kernel
theorem dX5_begin_29 : decode cX5_begin 29 = .ok (.iload_n 3, 1) := by decide +kernel
theorem dX5_begin_30 : decode cX5_begin 30 = .ok (.iastore, 1) := by decide +kernel
theorem dX5_begin_31 : decode cX5_begin 31 = .ok (.iinc 3 1, 3) := by decide +kernel
theorem dX5_begin_34 : decode cX5_begin 34 = .ok (.goto (-18), 3) := by decide +kernel
theorem dX5_begin_37 : decode cX5_begin 37 = .ok (.aload_n 0, 1) := by decide +kernel
theorem dX5_begin_38 : decode cX5_begin 38 = .ok (.sipush 255, 3) := by decide +kernel
theorem dX5_begin_41 : decode cX5_begin 41 = .ok (.putfield 28, 3) := by decide +kernel
theorem dX5_begin_44 : decode cX5_begin 44 = .ok (.aload_n 0, 1) := by decide +kernel
theorem dX5_begin_45 : decode cX5_begin 45 = .ok (.iload_n 2, 1) := by decide +kernel
theorem dX5_begin_46 : decode cX5_begin 46 = .ok (.putfield 31, 3) := by decide +kernel
theorem dX5_begin_49 : decode cX5_begin 49 = .ok (.return_, 1) := by decide +kernel
theorem dX5_copy_0 : decode cX5_copy 0 = .ok (.iconst 0, 1) := by decide +kernel
theorem dX5_copy_1 : decode cX5_copy 1 = .ok (.istore_n 2, 1) := by decide +kernel
theorem dX5_copy_2 : decode cX5_copy 2 = .ok (.iload_n 2, 1) := by decide +kernel
theorem dX5_copy_3 : decode cX5_copy 3 = .ok (.bipush 12, 2) := by decide +kernel
theorem dX5_copy_5 : decode cX5_copy 5 = .ok (.if_icmp .ge 21, 3) := by decide +kernel
theorem dX5_copy_8 : decode cX5_copy 8 = .ok (.aload_n 0, 1) := by decide +kernel
theorem dX5_copy_9 : decode cX5_copy 9 = .ok (.getfield 9, 3) := by decide +kernel
theorem dX5_copy_12 : decode cX5_copy 12 = .ok (.iload_n 2, 1) := by decide +kernel
theorem dX5_copy_13 : decode cX5_copy 13 = .ok (.aload_n 1, 1) := by decide +kernel
theorem dX5_copy_14 : decode cX5_copy 14 = .ok (.getfield 9, 3) := by decide +kernel
theorem dX5_copy_17 : decode cX5_copy 17 = .ok (.iload_n 2, 1) := by decide +kernel
theorem dX5_copy_18 : decode cX5_copy 18 = .ok (.iaload, 1) := by decide +kernel
theorem dX5_copy_19 : decode cX5_copy 19 = .ok (.iastore, 1) := by decide +kernel
theorem dX5_copy_20 : decode cX5_copy 20 = .ok (.iinc 2 1, 3) := by decide +kernel
theorem dX5_copy_23 : decode cX5_copy 23 = .ok (.goto (-21), 3) := by decide +kernel
theorem dX5_copy_26 : decode cX5_copy 26 = .ok (.aload_n 0, 1) := by decide +kernel
theorem dX5_copy_27 : decode cX5_copy 27 = .ok (.aload_n 1, 1) := by decide +kernel
theorem dX5_copy_28 : decode cX5_copy 28 = .ok (.getfield 24, 3) := by decide +kernel
theorem dX5_copy_31 : decode cX5_copy 31 = .ok (.putfield 24, 3) := by decide +kernel
theorem dX5_copy_34 : decode cX5_copy 34 = .ok (.aload_n 0, 1) := by decide +kernel
theorem dX5_copy_35 : decode cX5_copy 35 = .ok (.aload_n 1, 1) := by decide +kernel
theorem dX5_copy_36 : decode cX5_copy 36 = .ok (.getfield 28, 3) := by decide +kernel
theorem dX5_copy_39 : decode cX5_copy 39 = .ok (.putfield 28, 3) := by decide +kernel
theorem dX5_copy_42 : decode cX5_copy 42 = .ok (.aload_n 0, 1) := by decide +kernel
theorem dX5_copy_43 : decode cX5_copy 43 = .ok (.aload_n 1, 1) := by decide +kernel
theorem dX5_copy_44 : decode cX5_copy 44 = .ok (.getfield 31, 3) := by decide +kernel
theorem dX5_copy_47 : decode cX5_copy 47 = .ok (.putfield 31, 3) := by decide +kernel
theorem dX5_copy_50 : decode cX5_copy 50 = .ok (.return_, 1) := by decide +kernel
theorem dX5_isPlace_0 : decode cX5_isPlace 0 = .ok (.iload_n 1, 1) := by decide +kernel
theorem dX5_isPlace_1 : decode cX5_isPlace 1 = .ok (.ifCond .lt 15, 3) := by decide +kernel
theorem dX5_isPlace_4 : decode cX5_isPlace 4 = .ok (.iload_n 1, 1) := by decide +kernel
theorem dX5_isPlace_5 : decode cX5_isPlace 5 = .ok (.aload_n 0, 1) := by decide +kernel
theorem dX5_isPlace_6 : decode cX5_isPlace 6 = .ok (.getfield 24, 3) := by decide +kernel
theorem dX5_isPlace_9 : decode cX5_isPlace 9 = .ok (.if_icmp .ge 7, 3) := by decide +kernel
theorem dX5_isPlace_12 : decode cX5_isPlace 12 = .ok (.iconst 1, 1) := by decide +kernel
theorem dX5_isPlace_13 : decode cX5_isPlace 13 = .ok (.goto 4, 3) := by decide +kernel
theorem dX5_isPlace_16 : decode cX5_isPlace 16 = .ok (.iconst 0, 1) := by decide +kernel
theorem dX5_isPlace_17 : decode cX5_isPlace 17 = .ok (.ireturn, 1) := by decide +kernel
theorem dX5_armAt_0 : decode cX5_armAt 0 = .ok (.aload_n 0, 1) := by decide +kernel
theorem dX5_armAt_1 : decode cX5_armAt 1 = .ok (.iload_n 1, 1) := by decide +kernel
theorem dX5_armAt_2 : decode cX5_armAt 2 = .ok (.invokevirtual 34, 3) := by decide +kernel
theorem dX5_armAt_5 : decode cX5_armAt 5 = .ok (.ifCond .eq 12, 3) := by decide +kernel
theorem dX5_armAt_8 : decode cX5_armAt 8 = .ok (.aload_n 0, 1) := by decide +kernel
theorem dX5_armAt_9 : decode cX5_armAt 9 = .ok (.getfield 9, 3) := by decide +kernel
theorem dX5_armAt_12 : decode cX5_armAt 12 = .ok (.iload_n 1, 1) := by decide +kernel
theorem dX5_armAt_13 : decode cX5_armAt 13 = .ok (.iaload, 1) := by decide +kernel
theorem dX5_armAt_14 : decode cX5_armAt 14 = .ok (.goto 4, 3) := by decide +kernel
theorem dX5_armAt_17 : decode cX5_armAt 17 = .ok (.iconst (-1), 1) := by decide +kernel
theorem dX5_armAt_18 : decode cX5_armAt 18 = .ok (.ireturn, 1) := by decide +kernel
theorem dX5_exchange_0 : decode cX5_exchange 0 = .ok (.aload_n 0, 1) := by decide +kernel
theorem dX5_exchange_1 : decode cX5_exchange 1 = .ok (.iload_n 1, 1) := by decide +kernel
theorem dX5_exchange_2 : decode cX5_exchange 2 = .ok (.invokevirtual 34, 3) := by decide +kernel
theorem dX5_exchange_5 : decode cX5_exchange 5 = .ok (.ifCond .eq 37, 3) := by decide +kernel
theorem dX5_exchange_8 : decode cX5_exchange 8 = .ok (.aload_n 0, 1) := by decide +kernel
theorem dX5_exchange_9 : decode cX5_exchange 9 = .ok (.iload_n 2, 1) := by decide +kernel
theorem dX5_exchange_10 : decode cX5_exchange 10 = .ok (.invokevirtual 34, 3) := by decide +kernel
theorem dX5_exchange_13 : decode cX5_exchange 13 = .ok (.ifCond .eq 29, 3) := by decide +kernel
theorem dX5_exchange_16 : decode cX5_exchange 16 = .ok (.aload_n 0, 1) := by decide +kernel
theorem dX5_exchange_17 : decode cX5_exchange 17 = .ok (.getfield 9, 3) := by decide +kernel
theorem dX5_exchange_20 : decode cX5_exchange 20 = .ok (.iload_n 1, 1) := by decide +kernel
theorem dX5_exchange_21 : decode cX5_exchange 21 = .ok (.iaload, 1) := by decide +kernel
theorem dX5_exchange_22 : decode cX5_exchange 22 = .ok (.istore_n 3, 1) := by decide +kernel
theorem dX5_exchange_23 : decode cX5_exchange 23 = .ok (.aload_n 0, 1) := by decide +kernel
theorem dX5_exchange_24 : decode cX5_exchange 24 = .ok (.getfield 9, 3) := by decide +kernel
theorem dX5_exchange_27 : decode cX5_exchange 27 = .ok (.iload_n 1, 1) := by decide +kernel
theorem dX5_exchange_28 : decode cX5_exchange 28 = .ok (.aload_n 0, 1) := by decide +kernel
theorem dX5_exchange_29 : decode cX5_exchange 29 = .ok (.getfield 9, 3) := by decide +kernel
theorem dX5_exchange_32 : decode cX5_exchange 32 = .ok (.iload_n 2, 1) := by decide +kernel
theorem dX5_exchange_33 : decode cX5_exchange 33 = .ok (.iaload, 1) := by decide +kernel
theorem dX5_exchange_34 : decode cX5_exchange 34 = .ok (.iastore, 1) := by decide +kernel
theorem dX5_exchange_35 : decode cX5_exchange 35 = .ok (.aload_n 0, 1) := by decide +kernel
theorem dX5_exchange_36 : decode cX5_exchange 36 = .ok (.getfield 9, 3) := by decide +kernel
theorem dX5_exchange_39 : decode cX5_exchange 39 = .ok (.iload_n 2, 1) := by decide +kernel
theorem dX5_exchange_40 : decode cX5_exchange 40 = .ok (.iload_n 3, 1) := by decide +kernel
theorem dX5_exchange_41 : decode cX5_exchange 41 = .ok (.iastore, 1) := by decide +kernel
theorem dX5_exchange_42 : decode cX5_exchange 42 = .ok (.return_, 1) := by decide +kernel
theorem dX5_takeOut_0 : decode cX5_takeOut 0 = .ok (.aload_n 0, 1) := by decide +kernel
theorem dX5_takeOut_1 : decode cX5_takeOut 1 = .ok (.iload_n 1, 1) := by decide +kernel
theorem dX5_takeOut_2 : decode cX5_takeOut 2 = .ok (.invokevirtual 34, 3) := by decide +kernel
theorem dX5_takeOut_5 : decode cX5_takeOut 5 = .ok (.ifCond .eq 45, 3) := by decide +kernel
theorem dX5_takeOut_8 : decode cX5_takeOut 8 = .ok (.iload_n 1, 1) := by decide +kernel
theorem dX5_takeOut_9 : decode cX5_takeOut 9 = .ok (.istore_n 2, 1) := by decide +kernel
theorem dX5_takeOut_10 : decode cX5_takeOut 10 = .ok (.iload_n 2, 1) := by decide +kernel
theorem dX5_takeOut_11 : decode cX5_takeOut 11 = .ok (.iconst 1, 1) := by decide +kernel
theorem dX5_takeOut_12 : decode cX5_takeOut 12 = .ok (.iadd, 1) := by decide +kernel
theorem dX5_takeOut_13 : decode cX5_takeOut 13 = .ok (.aload_n 0, 1) := by decide +kernel
theorem dX5_takeOut_14 : decode cX5_takeOut 14 = .ok (.getfield 24, 3) := by decide +kernel
theorem dX5_takeOut_17 : decode cX5_takeOut 17 = .ok (.if_icmp .ge 23, 3) := by decide +kernel
theorem dX5_takeOut_20 : decode cX5_takeOut 20 = .ok (.aload_n 0, 1) := by decide +kernel
theorem dX5_takeOut_21 : decode cX5_takeOut 21 = .ok (.getfield 9, 3) := by decide +kernel
theorem dX5_takeOut_24 : decode cX5_takeOut 24 = .ok (.iload_n 2, 1) := by decide +kernel
theorem dX5_takeOut_25 : decode cX5_takeOut 25 = .ok (.aload_n 0, 1) := by decide +kernel
theorem dX5_takeOut_26 : decode cX5_takeOut 26 = .ok (.getfield 9, 3) := by decide +kernel
theorem dX5_takeOut_29 : decode cX5_takeOut 29 = .ok (.iload_n 2, 1) := by decide +kernel
theorem dX5_takeOut_30 : decode cX5_takeOut 30 = .ok (.iconst 1, 1) := by decide +kernel
theorem dX5_takeOut_31 : decode cX5_takeOut 31 = .ok (.iadd, 1) := by decide +kernel
theorem dX5_takeOut_32 : decode cX5_takeOut 32 = .ok (.iaload, 1) := by decide +kernel
theorem dX5_takeOut_33 : decode cX5_takeOut 33 = .ok (.iastore, 1) := by decide +kernel
theorem dX5_takeOut_34 : decode cX5_takeOut 34 = .ok (.iinc 2 1, 3) := by decide +kernel
theorem dX5_takeOut_37 : decode cX5_takeOut 37 = .ok (.goto (-27), 3) := by decide +kernel
theorem dX5_takeOut_40 : decode cX5_takeOut 40 = .ok (.aload_n 0, 1) := by decide +kernel
theorem dX5_takeOut_41 : decode cX5_takeOut 41 = .ok (.dup, 1) := by decide +kernel
theorem dX5_takeOut_42 : decode cX5_takeOut 42 = .ok (.getfield 24, 3) := by decide +kernel
theorem dX5_takeOut_45 : decode cX5_takeOut 45 = .ok (.iconst 1, 1) := by decide +kernel
theorem dX5_takeOut_46 : decode cX5_takeOut 46 = .ok (.isub, 1) := by decide +kernel
theorem dX5_takeOut_47 : decode cX5_takeOut 47 = .ok (.putfield 24, 3) := by decide +kernel
theorem dX5_takeOut_50 : decode cX5_takeOut 50 = .ok (.return_, 1) := by decide +kernel
theorem dX5_allArms_0 : decode cX5_allArms 0 = .ok (.iconst 0, 1) := by decide +kernel
theorem dX5_allArms_1 : decode cX5_allArms 1 = .ok (.istore_n 1, 1) := by decide +kernel
theorem dX5_allArms_2 : decode cX5_allArms 2 = .ok (.iconst 0, 1) := by decide +kernel
theorem dX5_allArms_3 : decode cX5_allArms 3 = .ok (.istore_n 2, 1) := by decide +kernel
theorem dX5_allArms_4 : decode cX5_allArms 4 = .ok (.iload_n 2, 1) := by decide +kernel
theorem dX5_allArms_5 : decode cX5_allArms 5 = .ok (.aload_n 0, 1) := by decide +kernel
theorem dX5_allArms_6 : decode cX5_allArms 6 = .ok (.getfield 24, 3) := by decide +kernel
theorem dX5_allArms_9 : decode cX5_allArms 9 = .ok (.if_icmp .ge 20, 3) := by decide +kernel
theorem dX5_allArms_12 : decode cX5_allArms 12 = .ok (.iload_n 1, 1) := by decide +kernel
theorem dX5_allArms_13 : decode cX5_allArms 13 = .ok (.iconst 1, 1) := by decide +kernel
theorem dX5_allArms_14 : decode cX5_allArms 14 = .ok (.aload_n 0, 1) := by decide +kernel
theorem dX5_allArms_15 : decode cX5_allArms 15 = .ok (.getfield 9, 3) := by decide +kernel
theorem dX5_allArms_18 : decode cX5_allArms 18 = .ok (.iload_n 2, 1) := by decide +kernel
theorem dX5_allArms_19 : decode cX5_allArms 19 = .ok (.iaload, 1) := by decide +kernel
theorem dX5_allArms_20 : decode cX5_allArms 20 = .ok (.ishl, 1) := by decide +kernel
theorem dX5_allArms_21 : decode cX5_allArms 21 = .ok (.ior, 1) := by decide +kernel
theorem dX5_allArms_22 : decode cX5_allArms 22 = .ok (.istore_n 1, 1) := by decide +kernel
theorem dX5_allArms_23 : decode cX5_allArms 23 = .ok (.iinc 2 1, 3) := by decide +kernel
theorem dX5_allArms_26 : decode cX5_allArms 26 = .ok (.goto (-22), 3) := by decide +kernel
theorem dX5_allArms_29 : decode cX5_allArms 29 = .ok (.iload_n 1, 1) := by decide +kernel
theorem dX5_allArms_30 : decode cX5_allArms 30 = .ok (.ireturn, 1) := by decide +kernel
theorem dX5_firstOf_0 : decode cX5_firstOf 0 = .ok (.iconst 0, 1) := by decide +kernel
theorem dX5_firstOf_1 : decode cX5_firstOf 1 = .ok (.istore_n 2, 1) := by decide +kernel
theorem dX5_firstOf_2 : decode cX5_firstOf 2 = .ok (.iload_n 2, 1) := by decide +kernel
theorem dX5_firstOf_3 : decode cX5_firstOf 3 = .ok (.aload_n 0, 1) := by decide +kernel
theorem dX5_firstOf_4 : decode cX5_firstOf 4 = .ok (.getfield 24, 3) := by decide +kernel
theorem dX5_firstOf_7 : decode cX5_firstOf 7 = .ok (.if_icmp .ge 29, 3) := by decide +kernel
theorem dX5_firstOf_10 : decode cX5_firstOf 10 = .ok (.iload_n 1, 1) := by decide +kernel
theorem dX5_firstOf_11 : decode cX5_firstOf 11 = .ok (.aload_n 0, 1) := by decide +kernel
theorem dX5_firstOf_12 : decode cX5_firstOf 12 = .ok (.getfield 9, 3) := by decide +kernel
theorem dX5_firstOf_15 : decode cX5_firstOf 15 = .ok (.iload_n 2, 1) := by decide +kernel
theorem dX5_firstOf_16 : decode cX5_firstOf 16 = .ok (.iaload, 1) := by decide +kernel
theorem dX5_firstOf_17 : decode cX5_firstOf 17 = .ok (.invokestatic 38, 3) := by decide +kernel
theorem dX5_firstOf_20 : decode cX5_firstOf 20 = .ok (.ifCond .eq 10, 3) := by decide +kernel
theorem dX5_firstOf_23 : decode cX5_firstOf 23 = .ok (.aload_n 0, 1) := by decide +kernel
theorem dX5_firstOf_24 : decode cX5_firstOf 24 = .ok (.getfield 9, 3) := by decide +kernel
theorem dX5_firstOf_27 : decode cX5_firstOf 27 = .ok (.iload_n 2, 1) := by decide +kernel
theorem dX5_firstOf_28 : decode cX5_firstOf 28 = .ok (.iaload, 1) := by decide +kernel
theorem dX5_firstOf_29 : decode cX5_firstOf 29 = .ok (.ireturn, 1) := by decide +kernel
theorem dX5_firstOf_30 : decode cX5_firstOf 30 = .ok (.iinc 2 1, 3) := by decide +kernel
theorem dX5_firstOf_33 : decode cX5_firstOf 33 = .ok (.goto (-31), 3) := by decide +kernel
theorem dX5_firstOf_36 : decode cX5_firstOf 36 = .ok (.iconst (-1), 1) := by decide +kernel
theorem dX5_firstOf_37 : decode cX5_firstOf 37 = .ok (.ireturn, 1) := by decide +kernel
theorem dX5_unguarded_0 : decode cX5_unguarded 0 = .ok (.iconst 0, 1) := by decide +kernel
theorem dX5_unguarded_1 : decode cX5_unguarded 1 = .ok (.istore_n 3, 1) := by decide +kernel
theorem dX5_unguarded_2 : decode cX5_unguarded 2 = .ok (.iconst 0, 1) := by decide +kernel
theorem dX5_unguarded_3 : decode cX5_unguarded 3 = .ok (.istore 4, 2) := by decide +kernel
theorem dX5_unguarded_5 : decode cX5_unguarded 5 = .ok (.iload 4, 2) := by decide +kernel
theorem dX5_unguarded_7 : decode cX5_unguarded 7 = .ok (.iload_n 2, 1) := by decide +kernel
theorem dX5_unguarded_8 : decode cX5_unguarded 8 = .ok (.if_icmp .ge 45, 3) := by decide +kernel
theorem dX5_unguarded_11 : decode cX5_unguarded 11 = .ok (.iload 4, 2) := by decide +kernel
theorem dX5_unguarded_13 : decode cX5_unguarded 13 = .ok (.aload_n 0, 1) := by decide +kernel
theorem dX5_unguarded_14 : decode cX5_unguarded 14 = .ok (.getfield 24, 3) := by decide +kernel
theorem dX5_unguarded_17 : decode cX5_unguarded 17 = .ok (.if_icmp .ge 36, 3) := by decide +kernel
theorem dX5_unguarded_20 : decode cX5_unguarded 20 = .ok (.aload_n 1, 1) := by decide +kernel
theorem dX5_unguarded_21 : decode cX5_unguarded 21 = .ok (.aload_n 0, 1) := by decide +kernel
theorem dX5_unguarded_22 : decode cX5_unguarded 22 = .ok (.getfield 9, 3) := by decide +kernel
theorem dX5_unguarded_25 : decode cX5_unguarded 25 = .ok (.iload 4, 2) := by decide +kernel
theorem dX5_unguarded_27 : decode cX5_unguarded 27 = .ok (.iaload, 1) := by decide +kernel
theorem dX5_unguarded_28 : decode cX5_unguarded 28 = .ok (.invokevirtual 42, 3) := by decide +kernel
theorem dX5_unguarded_31 : decode cX5_unguarded 31 = .ok (.iconst (-1), 1) := by decide +kernel
theorem dX5_unguarded_32 : decode cX5_unguarded 32 = .ok (.if_icmp .ne 15, 3) := by decide +kernel
theorem dX5_unguarded_35 : decode cX5_unguarded 35 = .ok (.iload_n 3, 1) := by decide +kernel
theorem dX5_unguarded_36 : decode cX5_unguarded 36 = .ok (.iconst 1, 1) := by decide +kernel
theorem dX5_unguarded_37 : decode cX5_unguarded 37 = .ok (.aload_n 0, 1) := by decide +kernel
theorem dX5_unguarded_38 : decode cX5_unguarded 38 = .ok (.getfield 9, 3) := by decide +kernel
theorem dX5_unguarded_41 : decode cX5_unguarded 41 = .ok (.iload 4, 2) := by decide +kernel
theorem dX5_unguarded_43 : decode cX5_unguarded 43 = .ok (.iaload, 1) := by decide +kernel
theorem dX5_unguarded_44 : decode cX5_unguarded 44 = .ok (.ishl, 1) := by decide +kernel
theorem dX5_unguarded_45 : decode cX5_unguarded 45 = .ok (.ior, 1) := by decide +kernel
theorem dX5_unguarded_46 : decode cX5_unguarded 46 = .ok (.istore_n 3, 1) := by decide +kernel
theorem dX5_unguarded_47 : decode cX5_unguarded 47 = .ok (.iinc 4 1, 3) := by decide +kernel
theorem dX5_unguarded_50 : decode cX5_unguarded 50 = .ok (.goto (-45), 3) := by decide +kernel
theorem dX5_unguarded_53 : decode cX5_unguarded 53 = .ok (.iload_n 3, 1) := by decide +kernel
theorem dX5_unguarded_54 : decode cX5_unguarded 54 = .ok (.ireturn, 1) := by decide +kernel
theorem dX5_placeTaking_0 : decode cX5_placeTaking 0 = .ok (.iconst 0, 1) := by decide +kernel
theorem dX5_placeTaking_1 : decode cX5_placeTaking 1 = .ok (.istore 4, 2) := by decide +kernel
theorem dX5_placeTaking_3 : decode cX5_placeTaking 3 = .ok (.iload 4, 2) := by decide +kernel
theorem dX5_placeTaking_5 : decode cX5_placeTaking 5 = .ok (.aload_n 0, 1) := by decide +kernel
theorem dX5_placeTaking_6 : decode cX5_placeTaking 6 = .ok (.getfield 24, 3) := by decide +kernel
theorem dX5_placeTaking_9 : decode cX5_placeTaking 9 = .ok (.if_icmp .ge 54, 3) := by decide +kernel
theorem dX5_placeTaking_12 : decode cX5_placeTaking 12 = .ok (.iload_n 2, 1) := by decide +kernel
theorem dX5_placeTaking_13 : decode cX5_placeTaking 13 = .ok (.aload_n 0, 1) := by decide +kernel
theorem dX5_placeTaking_14 : decode cX5_placeTaking 14 = .ok (.getfield 9, 3) := by decide +kernel
theorem dX5_placeTaking_17 : decode cX5_placeTaking 17 = .ok (.iload 4, 2) := by decide +kernel
theorem dX5_placeTaking_19 : decode cX5_placeTaking 19 = .ok (.iaload, 1) := by decide +kernel
theorem dX5_placeTaking_20 : decode cX5_placeTaking 20 = .ok (.invokestatic 38, 3) := by decide +kernel
theorem dX5_placeTaking_23 : decode cX5_placeTaking 23 = .ok (.ifCond .eq 34, 3) := by decide +kernel
theorem dX5_placeTaking_26 : decode cX5_placeTaking 26 = .ok (.aload_n 1, 1) := by decide +kernel
theorem dX5_placeTaking_27 : decode cX5_placeTaking 27 = .ok (.aload_n 0, 1) := by decide +kernel
theorem dX5_placeTaking_28 : decode cX5_placeTaking 28 = .ok (.getfield 9, 3) := by decide +kernel
theorem dX5_placeTaking_31 : decode cX5_placeTaking 31 = .ok (.iload 4, 2) := by decide +kernel
theorem dX5_placeTaking_33 : decode cX5_placeTaking 33 = .ok (.iaload, 1) := by decide +kernel
theorem dX5_placeTaking_34 : decode cX5_placeTaking 34 = .ok (.invokevirtual 42, 3) := by decide +kernel
theorem dX5_placeTaking_37 : decode cX5_placeTaking 37 = .ok (.istore 5, 2) := by decide +kernel
theorem dX5_placeTaking_39 : decode cX5_placeTaking 39 = .ok (.iload 5, 2) := by decide +kernel
theorem dX5_placeTaking_41 : decode cX5_placeTaking 41 = .ok (.iconst (-1), 1) := by decide +kernel
theorem dX5_placeTaking_42 : decode cX5_placeTaking 42 = .ok (.if_icmp .eq 12, 3) := by decide +kernel
theorem dX5_placeTaking_45 : decode cX5_placeTaking 45 = .ok (.iload_n 3, 1) := by decide +kernel
theorem dX5_placeTaking_46 : decode cX5_placeTaking 46 = .ok (.iload 5, 2) := by decide +kernel
theorem dX5_placeTaking_48 : decode cX5_placeTaking 48 = .ok (.invokestatic 38, 3) := by decide +kernel
theorem dX5_placeTaking_51 : decode cX5_placeTaking 51 = .ok (.ifCond .eq 6, 3) := by decide +kernel
theorem dX5_placeTaking_54 : decode cX5_placeTaking 54 = .ok (.iload 4, 2) := by decide +kernel
theorem dX5_placeTaking_56 : decode cX5_placeTaking 56 = .ok (.ireturn, 1) := by decide +kernel
theorem dX5_placeTaking_57 : decode cX5_placeTaking 57 = .ok (.iinc 4 1, 3) := by decide +kernel
theorem dX5_placeTaking_60 : decode cX5_placeTaking 60 = .ok (.goto (-57), 3) := by decide +kernel
theorem dX5_placeTaking_63 : decode cX5_placeTaking 63 = .ok (.iconst (-1), 1) := by decide +kernel
theorem dX5_placeTaking_64 : decode cX5_placeTaking 64 = .ok (.ireturn, 1) := by decide +kernel
theorem dX5_takings_0 : decode cX5_takings 0 = .ok (.lconst 0, 1) := by decide +kernel
theorem dX5_takings_1 : decode cX5_takings 1 = .ok (.lstore_n 3, 1) := by decide +kernel
theorem dX5_takings_2 : decode cX5_takings 2 = .ok (.iconst 0, 1) := by decide +kernel
theorem dX5_takings_3 : decode cX5_takings 3 = .ok (.istore 5, 2) := by decide +kernel
theorem dX5_takings_5 : decode cX5_takings 5 = .ok (.iconst 0, 1) := by decide +kernel
theorem dX5_takings_6 : decode cX5_takings 6 = .ok (.istore 6, 2) := by decide +kernel
theorem dX5_takings_8 : decode cX5_takings 8 = .ok (.iload 6, 2) := by decide +kernel
theorem dX5_takings_10 : decode cX5_takings 10 = .ok (.aload_n 0, 1) := by decide +kernel
theorem dX5_takings_11 : decode cX5_takings 11 = .ok (.getfield 24, 3) := by decide +kernel
theorem dX5_takings_14 : decode cX5_takings 14 = .ok (.if_icmp .ge 83, 3) := by decide +kernel
theorem dX5_takings_17 : decode cX5_takings 17 = .ok (.aload_n 0, 1) := by decide +kernel
theorem dX5_takings_18 : decode cX5_takings 18 = .ok (.getfield 9, 3) := by decide +kernel
theorem dX5_takings_21 : decode cX5_takings 21 = .ok (.iload 6, 2) := by decide +kernel
theorem dX5_takings_23 : decode cX5_takings 23 = .ok (.iaload, 1) := by decide +kernel
theorem dX5_takings_24 : decode cX5_takings 24 = .ok (.istore 7, 2) := by decide +kernel
theorem dX5_takings_26 : decode cX5_takings 26 = .ok (.aload_n 1, 1) := by decide +kernel
theorem dX5_takings_27 : decode cX5_takings 27 = .ok (.iload 7, 2) := by decide +kernel
theorem dX5_takings_29 : decode cX5_takings 29 = .ok (.invokevirtual 42, 3) := by decide +kernel
theorem dX5_takings_32 : decode cX5_takings 32 = .ok (.istore 8, 2) := by decide +kernel
theorem dX5_takings_34 : decode cX5_takings 34 = .ok (.iload_n 2, 1) := by decide +kernel
theorem dX5_takings_35 : decode cX5_takings 35 = .ok (.iload 7, 2) := by decide +kernel
theorem dX5_takings_37 : decode cX5_takings 37 = .ok (.invokestatic 38, 3) := by decide +kernel
theorem dX5_takings_40 : decode cX5_takings 40 = .ok (.ifCond .eq 51, 3) := by decide +kernel
theorem dX5_takings_43 : decode cX5_takings 43 = .ok (.iload 8, 2) := by decide +kernel
theorem dX5_takings_45 : decode cX5_takings 45 = .ok (.iconst (-1), 1) := by decide +kernel
theorem dX5_takings_46 : decode cX5_takings 46 = .ok (.if_icmp .eq 16, 3) := by decide +kernel
theorem dX5_takings_49 : decode cX5_takings 49 = .ok (.iload 5, 2) := by decide +kernel
theorem dX5_takings_51 : decode cX5_takings 51 = .ok (.iload 8, 2) := by decide +kernel
theorem dX5_takings_53 : decode cX5_takings 53 = .ok (.invokestatic 38, 3) := by decide +kernel
theorem dX5_takings_56 : decode cX5_takings 56 = .ok (.ifCond .eq 6, 3) := by decide +kernel
theorem dX5_takings_59 : decode cX5_takings 59 = .ok (.goto 32, 3) := by decide +kernel
theorem dX5_takings_62 : decode cX5_takings 62 = .ok (.lload_n 3, 1) := by decide +kernel
theorem dX5_takings_63 : decode cX5_takings 63 = .ok (.ldc2_w 48, 3) := by decide +kernel
theorem dX5_takings_66 : decode cX5_takings 66 = .ok (.lmul, 1) := by decide +kernel
theorem dX5_takings_67 : decode cX5_takings 67 = .ok (.iload 7, 2) := by decide +kernel
theorem dX5_takings_69 : decode cX5_takings 69 = .ok (.i2l, 1) := by decide +kernel
theorem dX5_takings_70 : decode cX5_takings 70 = .ok (.ladd, 1) := by decide +kernel
theorem dX5_takings_71 : decode cX5_takings 71 = .ok (.lconst 1, 1) := by decide +kernel
theorem dX5_takings_72 : decode cX5_takings 72 = .ok (.ladd, 1) := by decide +kernel
theorem dX5_takings_73 : decode cX5_takings 73 = .ok (.lstore_n 3, 1) := by decide +kernel
theorem dX5_takings_74 : decode cX5_takings 74 = .ok (.iload 8, 2) := by decide +kernel
theorem dX5_takings_76 : decode cX5_takings 76 = .ok (.iconst (-1), 1) := by decide +kernel
theorem dX5_takings_77 : decode cX5_takings 77 = .ok (.if_icmp .ne 5, 3) := by decide +kernel
theorem dX5_takings_80 : decode cX5_takings 80 = .ok (.lload_n 3, 1) := by decide +kernel
theorem dX5_takings_81 : decode cX5_takings 81 = .ok (.lreturn, 1) := by decide +kernel
theorem dX5_takings_82 : decode cX5_takings 82 = .ok (.iload 5, 2) := by decide +kernel
theorem dX5_takings_84 : decode cX5_takings 84 = .ok (.iconst 1, 1) := by decide +kernel
theorem dX5_takings_85 : decode cX5_takings 85 = .ok (.iload 8, 2) := by decide +kernel
theorem dX5_takings_87 : decode cX5_takings 87 = .ok (.ishl, 1) := by decide +kernel
theorem dX5_takings_88 : decode cX5_takings 88 = .ok (.ior, 1) := by decide +kernel
theorem dX5_takings_89 : decode cX5_takings 89 = .ok (.istore 5, 2) := by decide +kernel
theorem dX5_takings_91 : decode cX5_takings 91 = .ok (.iinc 6 1, 3) := by decide +kernel
theorem dX5_takings_94 : decode cX5_takings 94 = .ok (.goto (-86), 3) := by decide +kernel
theorem dX5_takings_97 : decode cX5_takings 97 = .ok (.lload_n 3, 1) := by decide +kernel
theorem dX5_takings_98 : decode cX5_takings 98 = .ok (.lreturn, 1) := by decide +kernel
theorem dX6_init_0 : decode cX6_init 0 = .ok (.aload_n 0, 1) := by decide +kernel
theorem dX6_init_1 : decode cX6_init 1 = .ok (.invokespecial 3, 3) := by decide +kernel
theorem dX6_init_4 : decode cX6_init 4 = .ok (.aload_n 0, 1) := by decide +kernel
theorem dX6_init_5 : decode cX6_init 5 = .ok (.new 9, 3) := by decide +kernel
theorem dX6_init_8 : decode cX6_init 8 = .ok (.dup, 1) := by decide +kernel
theorem dX6_init_9 : decode cX6_init 9 = .ok (.invokespecial 11, 3) := by decide +kernel
theorem dX6_init_12 : decode cX6_init 12 = .ok (.putfield 12, 3) := by decide +kernel
theorem dX6_init_15 : decode cX6_init 15 = .ok (.aload_n 0, 1) := by decide +kernel
theorem dX6_init_16 : decode cX6_init 16 = .ok (.bipush 10, 2) := by decide +kernel
theorem dX6_init_18 : decode cX6_init 18 = .ok (.sipush 2048, 3) := by decide +kernel
theorem dX6_init_21 : decode cX6_init 21 = .ok (.multianewarray 18 2, 4) := by decide +kernel
theorem dX6_init_25 : decode cX6_init 25 = .ok (.putfield 20, 3) := by decide +kernel
theorem dX6_init_28 : decode cX6_init 28 = .ok (.aload_n 0, 1) := by decide +kernel
theorem dX6_init_29 : decode cX6_init 29 = .ok (.iconst (-1), 1) := by decide +kernel
theorem dX6_init_30 : decode cX6_init 30 = .ok (.putfield 23, 3) := by decide +kernel
theorem dX6_init_33 : decode cX6_init 33 = .ok (.aload_n 0, 1) := by decide +kernel
theorem dX6_init_34 : decode cX6_init 34 = .ok (.aload_n 1, 1) := by decide +kernel
theorem dX6_init_35 : decode cX6_init 35 = .ok (.putfield 27, 3) := by decide +kernel
theorem dX6_init_38 : decode cX6_init 38 = .ok (.return_, 1) := by decide +kernel
theorem dX6_readMatch_0 : decode cX6_readMatch 0 = .ok (.aload_n 0, 1) := by decide +kernel
theorem dX6_readMatch_1 : decode cX6_readMatch 1 = .ok (.aload_n 2, 1) := by decide +kernel
theorem dX6_readMatch_2 : decode cX6_readMatch 2 = .ok (.putfield 27, 3) := by decide +kernel
theorem dX6_readMatch_5 : decode cX6_readMatch 5 = .ok (.aload_n 0, 1) := by decide +kernel
theorem dX6_readMatch_6 : decode cX6_readMatch 6 = .ok (.getfield 27, 3) := by decide +kernel
theorem dX6_readMatch_9 : decode cX6_readMatch 9 = .ok (.invokevirtual 31, 3) := by decide +kernel
theorem dX6_readMatch_12 : decode cX6_readMatch 12 = .ok (.aload_n 0, 1) := by decide +kernel
theorem dX6_readMatch_13 : decode cX6_readMatch 13 = .ok (.aload_n 1, 1) := by decide +kernel
theorem dX6_readMatch_14 : decode cX6_readMatch 14 = .ok (.invokevirtual 36, 3) := by decide +kernel
theorem dX6_readMatch_17 : decode cX6_readMatch 17 = .ok (.iconst 0, 1) := by decide +kernel
theorem dX6_readMatch_18 : decode cX6_readMatch 18 = .ok (.istore_n 3, 1) := by decide +kernel
theorem dX6_readMatch_19 : decode cX6_readMatch 19 = .ok (.aload_n 0, 1) := by decide +kernel
theorem dX6_readMatch_20 : decode cX6_readMatch 20 = .ok (.getfield 12, 3) := by decide +kernel
theorem dX6_readMatch_23 : decode cX6_readMatch 23 = .ok (.getfield 40, 3) := by decide +kernel
theorem dX6_readMatch_26 : decode cX6_readMatch 26 = .ok (.ifCond .eq 140, 3) := by decide +kernel
theorem dX6_readMatch_29 : decode cX6_readMatch 29 = .ok (.iload_n 3, 1) := by decide +kernel
theorem dX6_readMatch_30 : decode cX6_readMatch 30 = .ok (.bipush 60, 2) := by decide +kernel
theorem dX6_readMatch_32 : decode cX6_readMatch 32 = .ok (.if_icmp .ge 134, 3) := by decide +kernel
theorem dX6_readMatch_35 : decode cX6_readMatch 35 = .ok (.aload_n 0, 1) := by decide +kernel
theorem dX6_readMatch_36 : decode cX6_readMatch 36 = .ok (.getfield 12, 3) := by decide +kernel
theorem dX6_readMatch_39 : decode cX6_readMatch 39 = .ok (.getfield 43, 3) := by decide +kernel
theorem dX6_readMatch_42 : decode cX6_readMatch 42 = .ok (.tableswitch 96 0 6 #[42, 51, 60, 69, 96, 78, 87], 42) := by decide +kernel
theorem dX6_readMatch_84 : decode cX6_readMatch 84 = .ok (.aload_n 0, 1) := by decide +kernel
theorem dX6_readMatch_85 : decode cX6_readMatch 85 = .ok (.invokevirtual 46, 3) := by decide +kernel
theorem dX6_readMatch_88 : decode cX6_readMatch 88 = .ok (.istore 4, 2) := by decide +kernel
theorem dX6_readMatch_90 : decode cX6_readMatch 90 = .ok (.goto 54, 3) := by decide +kernel
theorem dX6_readMatch_93 : decode cX6_readMatch 93 = .ok (.aload_n 0, 1) := by decide +kernel
theorem dX6_readMatch_94 : decode cX6_readMatch 94 = .ok (.invokevirtual 50, 3) := by decide +kernel
theorem dX6_readMatch_97 : decode cX6_readMatch 97 = .ok (.istore 4, 2) := by decide +kernel
theorem dX6_readMatch_99 : decode cX6_readMatch 99 = .ok (.goto 45, 3) := by decide +kernel
theorem dX6_readMatch_102 : decode cX6_readMatch 102 = .ok (.aload_n 0, 1) := by decide +kernel
theorem dX6_readMatch_103 : decode cX6_readMatch 103 = .ok (.invokevirtual 53, 3) := by decide +kernel
theorem dX6_readMatch_106 : decode cX6_readMatch 106 = .ok (.istore 4, 2) := by decide +kernel
theorem dX6_readMatch_108 : decode cX6_readMatch 108 = .ok (.goto 36, 3) := by decide +kernel
theorem dX6_readMatch_111 : decode cX6_readMatch 111 = .ok (.aload_n 0, 1) := by decide +kernel
theorem dX6_readMatch_112 : decode cX6_readMatch 112 = .ok (.invokevirtual 56, 3) := by decide +kernel
theorem dX6_readMatch_115 : decode cX6_readMatch 115 = .ok (.istore 4, 2) := by decide +kernel
theorem dX6_readMatch_117 : decode cX6_readMatch 117 = .ok (.goto 27, 3) := by decide +kernel
theorem dX6_readMatch_120 : decode cX6_readMatch 120 = .ok (.aload_n 0, 1) := by decide +kernel
theorem dX6_readMatch_121 : decode cX6_readMatch 121 = .ok (.invokevirtual 59, 3) := by decide +kernel
theorem dX6_readMatch_124 : decode cX6_readMatch 124 = .ok (.istore 4, 2) := by decide +kernel
theorem dX6_readMatch_126 : decode cX6_readMatch 126 = .ok (.goto 18, 3) := by decide +kernel
theorem dX6_readMatch_129 : decode cX6_readMatch 129 = .ok (.aload_n 0, 1) := by decide +kernel
theorem dX6_readMatch_130 : decode cX6_readMatch 130 = .ok (.invokevirtual 62, 3) := by decide +kernel
theorem dX6_readMatch_133 : decode cX6_readMatch 133 = .ok (.istore 4, 2) := by decide +kernel
theorem dX6_readMatch_135 : decode cX6_readMatch 135 = .ok (.goto 9, 3) := by decide +kernel
theorem dX6_readMatch_138 : decode cX6_readMatch 138 = .ok (.aload_n 0, 1) := by decide +kernel
theorem dX6_readMatch_139 : decode cX6_readMatch 139 = .ok (.invokevirtual 65, 3) := by decide +kernel
theorem dX6_readMatch_142 : decode cX6_readMatch 142 = .ok (.istore 4, 2) := by decide +kernel
theorem dX6_readMatch_144 : decode cX6_readMatch 144 = .ok (.iload 4, 2) := by decide +kernel
theorem dX6_readMatch_146 : decode cX6_readMatch 146 = .ok (.ifCond .eq 12, 3) := by decide +kernel
theorem dX6_readMatch_149 : decode cX6_readMatch 149 = .ok (.aload_n 0, 1) := by decide +kernel
theorem dX6_readMatch_150 : decode cX6_readMatch 150 = .ok (.bipush 59, 2) := by decide +kernel
theorem dX6_readMatch_152 : decode cX6_readMatch 152 = .ok (.invokevirtual 68, 3) := by decide +kernel
theorem dX6_readMatch_155 : decode cX6_readMatch 155 = .ok (.ifCond .ne 5, 3) := by decide +kernel
theorem dX6_readMatch_158 : decode cX6_readMatch 158 = .ok (.iconst (-1), 1) := by decide +kernel
theorem dX6_readMatch_159 : decode cX6_readMatch 159 = .ok (.ireturn, 1) := by decide +kernel
theorem dX6_readMatch_160 : decode cX6_readMatch 160 = .ok (.iinc 3 1, 3) := by decide +kernel
theorem dX6_readMatch_163 : decode cX6_readMatch 163 = .ok (.goto (-144), 3) := by decide +kernel
theorem dX6_readMatch_166 : decode cX6_readMatch 166 = .ok (.aload_n 0, 1) := by decide +kernel
theorem dX6_readMatch_167 : decode cX6_readMatch 167 = .ok (.getfield 12, 3) := by decide +kernel
theorem dX6_readMatch_170 : decode cX6_readMatch 170 = .ok (.getfield 40, 3) := by decide +kernel
theorem dX6_readMatch_173 : decode cX6_readMatch 173 = .ok (.ifCond .eq 19, 3) := by decide +kernel
theorem dX6_readMatch_176 : decode cX6_readMatch 176 = .ok (.aload_n 0, 1) := by decide +kernel
theorem dX6_readMatch_177 : decode cX6_readMatch 177 = .ok (.bipush 6, 2) := by decide +kernel
theorem dX6_readMatch_179 : decode cX6_readMatch 179 = .ok (.aload_n 0, 1) := by decide +kernel
theorem dX6_readMatch_180 : decode cX6_readMatch 180 = .ok (.getfield 12, 3) := by decide +kernel
theorem dX6_readMatch_183 : decode cX6_readMatch 183 = .ok (.getfield 72, 3) := by decide +kernel
theorem dX6_readMatch_186 : decode cX6_readMatch 186 = .ok (.invokevirtual 75, 3) := by decide +kernel
theorem dX6_readMatch_189 : decode cX6_readMatch 189 = .ok (.pop, 1) := by decide +kernel
theorem dX6_readMatch_190 : decode cX6_readMatch 190 = .ok (.iconst (-1), 1) := by decide +kernel
theorem dX6_readMatch_191 : decode cX6_readMatch 191 = .ok (.ireturn, 1) := by decide +kernel
theorem dX6_readMatch_192 : decode cX6_readMatch 192 = .ok (.aload_n 0, 1) := by decide +kernel
theorem dX6_readMatch_193 : decode cX6_readMatch 193 = .ok (.getfield 27, 3) := by decide +kernel
theorem dX6_readMatch_196 : decode cX6_readMatch 196 = .ok (.getfield 79, 3) := by decide +kernel
theorem dX6_readMatch_199 : decode cX6_readMatch 199 = .ok (.ifCond .ne 10, 3) := by decide +kernel
theorem dX6_readMatch_202 : decode cX6_readMatch 202 = .ok (.aload_n 0, 1) := by decide +kernel
theorem dX6_readMatch_203 : decode cX6_readMatch 203 = .ok (.invokevirtual 65, 3) := by decide +kernel
theorem dX6_readMatch_206 : decode cX6_readMatch 206 = .ok (.pop, 1) := by decide +kernel
theorem dX6_readMatch_207 : decode cX6_readMatch 207 = .ok (.iconst (-1), 1) := by decide +kernel
theorem dX6_readMatch_208 : decode cX6_readMatch 208 = .ok (.ireturn, 1) := by decide +kernel
theorem dX6_readMatch_209 : decode cX6_readMatch 209 = .ok (.iload_n 3, 1) := by decide +kernel
theorem dX6_readMatch_210 : decode cX6_readMatch 210 = .ok (.ireturn, 1) := by decide +kernel
theorem dX6_begin_0 : decode cX6_begin 0 = .ok (.aload_n 0, 1) := by decide +kernel
theorem dX6_begin_1 : decode cX6_begin 1 = .ok (.iconst 0, 1) := by decide +kernel
theorem dX6_begin_2 : decode cX6_begin 2 = .ok (.putfield 82, 3) := by decide +kernel
theorem dX6_begin_5 : decode cX6_begin 5 = .ok (.aload_n 0, 1) := by decide +kernel
theorem dX6_begin_6 : decode cX6_begin 6 = .ok (.iconst (-1), 1) := by decide +kernel
theorem dX6_begin_7 : decode cX6_begin 7 = .ok (.putfield 23, 3) := by decide +kernel
theorem dX6_begin_10 : decode cX6_begin 10 = .ok (.aload_n 0, 1) := by decide +kernel
theorem dX6_begin_11 : decode cX6_begin 11 = .ok (.getfield 12, 3) := by decide +kernel
theorem dX6_begin_14 : decode cX6_begin 14 = .ok (.aload_n 1, 1) := by decide +kernel
theorem dX6_begin_15 : decode cX6_begin 15 = .ok (.invokevirtual 85, 3) := by decide +kernel
theorem dX6_begin_18 : decode cX6_begin 18 = .ok (.return_, 1) := by decide +kernel
theorem dX6_fail_0 : decode cX6_fail 0 = .ok (.aload_n 0, 1) := by decide +kernel
theorem dX6_fail_1 : decode cX6_fail 1 = .ok (.iload_n 1, 1) := by decide +kernel
theorem dX6_fail_2 : decode cX6_fail 2 = .ok (.putfield 82, 3) := by decide +kernel
theorem dX6_fail_5 : decode cX6_fail 5 = .ok (.aload_n 0, 1) := by decide +kernel
theorem dX6_fail_6 : decode cX6_fail 6 = .ok (.iload_n 2, 1) := by decide +kernel
theorem dX6_fail_7 : decode cX6_fail 7 = .ok (.putfield 23, 3) := by decide +kernel
theorem dX6_fail_10 : decode cX6_fail 10 = .ok (.iconst 0, 1) := by decide +kernel
