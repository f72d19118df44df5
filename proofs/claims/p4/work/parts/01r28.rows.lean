theorem dX12_swap_26 : decode cX12_swap 26 = .ok (.ifCond .lt 7, 3) := by decide +kernel
theorem dX12_swap_29 : decode cX12_swap 29 = .ok (.iconst 1, 1) := by decide +kernel
theorem dX12_swap_30 : decode cX12_swap 30 = .ok (.goto 4, 3) := by decide +kernel
theorem dX12_swap_33 : decode cX12_swap 33 = .ok (.iconst 0, 1) := by decide +kernel
theorem dX12_swap_34 : decode cX12_swap 34 = .ok (.ireturn, 1) := by decide +kernel
theorem dX12_swap_35 : decode cX12_swap 35 = .ok (.aload_n 0, 1) := by decide +kernel
theorem dX12_swap_36 : decode cX12_swap 36 = .ok (.invokevirtual 628, 3) := by decide +kernel
theorem dX12_swap_39 : decode cX12_swap 39 = .ok (.aload_n 0, 1) := by decide +kernel
theorem dX12_swap_40 : decode cX12_swap 40 = .ok (.iconst 0, 1) := by decide +kernel
theorem dX12_swap_41 : decode cX12_swap 41 = .ok (.iload_n 1, 1) := by decide +kernel
theorem dX12_swap_42 : decode cX12_swap 42 = .ok (.iload_n 2, 1) := by decide +kernel
theorem dX12_swap_43 : decode cX12_swap 43 = .ok (.invokevirtual 618, 3) := by decide +kernel
theorem dX12_swap_46 : decode cX12_swap 46 = .ok (.iconst 1, 1) := by decide +kernel
theorem dX12_swap_47 : decode cX12_swap 47 = .ok (.ireturn, 1) := by decide +kernel
theorem dX12_drop_0 : decode cX12_drop 0 = .ok (.aload_n 0, 1) := by decide +kernel
theorem dX12_drop_1 : decode cX12_drop 1 = .ok (.iload_n 1, 1) := by decide +kernel
theorem dX12_drop_2 : decode cX12_drop 2 = .ok (.invokevirtual 498, 3) := by decide +kernel
theorem dX12_drop_5 : decode cX12_drop 5 = .ok (.ifCond .ne 17, 3) := by decide +kernel
theorem dX12_drop_8 : decode cX12_drop 8 = .ok (.aload_n 0, 1) := by decide +kernel
theorem dX12_drop_9 : decode cX12_drop 9 = .ok (.iconst 3, 1) := by decide +kernel
theorem dX12_drop_10 : decode cX12_drop 10 = .ok (.invokevirtual 312, 3) := by decide +kernel
theorem dX12_drop_13 : decode cX12_drop 13 = .ok (.ifCond .lt 7, 3) := by decide +kernel
theorem dX12_drop_16 : decode cX12_drop 16 = .ok (.iconst 1, 1) := by decide +kernel
theorem dX12_drop_17 : decode cX12_drop 17 = .ok (.goto 4, 3) := by decide +kernel
theorem dX12_drop_20 : decode cX12_drop 20 = .ok (.iconst 0, 1) := by decide +kernel
theorem dX12_drop_21 : decode cX12_drop 21 = .ok (.ireturn, 1) := by decide +kernel
theorem dX12_drop_22 : decode cX12_drop 22 = .ok (.aload_n 0, 1) := by decide +kernel
theorem dX12_drop_23 : decode cX12_drop 23 = .ok (.invokevirtual 628, 3) := by decide +kernel
theorem dX12_drop_26 : decode cX12_drop 26 = .ok (.iload_n 1, 1) := by decide +kernel
theorem dX12_drop_27 : decode cX12_drop 27 = .ok (.istore_n 2, 1) := by decide +kernel
theorem dX12_drop_28 : decode cX12_drop 28 = .ok (.iload_n 2, 1) := by decide +kernel
theorem dX12_drop_29 : decode cX12_drop 29 = .ok (.iconst 1, 1) := by decide +kernel
theorem dX12_drop_30 : decode cX12_drop 30 = .ok (.iadd, 1) := by decide +kernel
theorem dX12_drop_31 : decode cX12_drop 31 = .ok (.aload_n 0, 1) := by decide +kernel
theorem dX12_drop_32 : decode cX12_drop 32 = .ok (.getfield 173, 3) := by decide +kernel
theorem dX12_drop_35 : decode cX12_drop 35 = .ok (.iconst 0, 1) := by decide +kernel
theorem dX12_drop_36 : decode cX12_drop 36 = .ok (.iaload, 1) := by decide +kernel
theorem dX12_drop_37 : decode cX12_drop 37 = .ok (.if_icmp .ge 23, 3) := by decide +kernel
theorem dX12_drop_40 : decode cX12_drop 40 = .ok (.aload_n 0, 1) := by decide +kernel
theorem dX12_drop_41 : decode cX12_drop 41 = .ok (.getfield 176, 3) := by decide +kernel
theorem dX12_drop_44 : decode cX12_drop 44 = .ok (.iload_n 2, 1) := by decide +kernel
theorem dX12_drop_45 : decode cX12_drop 45 = .ok (.aload_n 0, 1) := by decide +kernel
theorem dX12_drop_46 : decode cX12_drop 46 = .ok (.getfield 176, 3) := by decide +kernel
theorem dX12_drop_49 : decode cX12_drop 49 = .ok (.iload_n 2, 1) := by decide +kernel
theorem dX12_drop_50 : decode cX12_drop 50 = .ok (.iconst 1, 1) := by decide +kernel
theorem dX12_drop_51 : decode cX12_drop 51 = .ok (.iadd, 1) := by decide +kernel
theorem dX12_drop_52 : decode cX12_drop 52 = .ok (.iaload, 1) := by decide +kernel
theorem dX12_drop_53 : decode cX12_drop 53 = .ok (.iastore, 1) := by decide +kernel
theorem dX12_drop_54 : decode cX12_drop 54 = .ok (.iinc 2 1, 3) := by decide +kernel
theorem dX12_drop_57 : decode cX12_drop 57 = .ok (.goto (-29), 3) := by decide +kernel
theorem dX12_drop_60 : decode cX12_drop 60 = .ok (.aload_n 0, 1) := by decide +kernel
theorem dX12_drop_61 : decode cX12_drop 61 = .ok (.getfield 173, 3) := by decide +kernel
theorem dX12_drop_64 : decode cX12_drop 64 = .ok (.iconst 0, 1) := by decide +kernel
theorem dX12_drop_65 : decode cX12_drop 65 = .ok (.dup2, 1) := by decide +kernel
theorem dX12_drop_66 : decode cX12_drop 66 = .ok (.iaload, 1) := by decide +kernel
theorem dX12_drop_67 : decode cX12_drop 67 = .ok (.iconst 1, 1) := by decide +kernel
theorem dX12_drop_68 : decode cX12_drop 68 = .ok (.isub, 1) := by decide +kernel
theorem dX12_drop_69 : decode cX12_drop 69 = .ok (.iastore, 1) := by decide +kernel
theorem dX12_drop_70 : decode cX12_drop 70 = .ok (.iconst 1, 1) := by decide +kernel
theorem dX12_drop_71 : decode cX12_drop 71 = .ok (.ireturn, 1) := by decide +kernel
theorem dX12_turn_0 : decode cX12_turn 0 = .ok (.aload_n 0, 1) := by decide +kernel
theorem dX12_turn_1 : decode cX12_turn 1 = .ok (.getfield 146, 3) := by decide +kernel
theorem dX12_turn_4 : decode cX12_turn 4 = .ok (.ifCond .eq 13, 3) := by decide +kernel
theorem dX12_turn_7 : decode cX12_turn 7 = .ok (.iload_n 1, 1) := by decide +kernel
theorem dX12_turn_8 : decode cX12_turn 8 = .ok (.iconst 0, 1) := by decide +kernel
theorem dX12_turn_9 : decode cX12_turn 9 = .ok (.bipush 7, 2) := by decide +kernel
theorem dX12_turn_11 : decode cX12_turn 11 = .ok (.invokestatic 362, 3) := by decide +kernel
theorem dX12_turn_14 : decode cX12_turn 14 = .ok (.ifCond .ne 9, 3) := by decide +kernel
theorem dX12_turn_17 : decode cX12_turn 17 = .ok (.aload_n 0, 1) := by decide +kernel
theorem dX12_turn_18 : decode cX12_turn 18 = .ok (.iconst 3, 1) := by decide +kernel
theorem dX12_turn_19 : decode cX12_turn 19 = .ok (.invokevirtual 312, 3) := by decide +kernel
theorem dX12_turn_22 : decode cX12_turn 22 = .ok (.ireturn, 1) := by decide +kernel
theorem dX12_turn_23 : decode cX12_turn 23 = .ok (.aload_n 0, 1) := by decide +kernel
theorem dX12_turn_24 : decode cX12_turn 24 = .ok (.invokevirtual 628, 3) := by decide +kernel
theorem dX12_turn_27 : decode cX12_turn 27 = .ok (.aload_n 0, 1) := by decide +kernel
theorem dX12_turn_28 : decode cX12_turn 28 = .ok (.getfield 179, 3) := by decide +kernel
theorem dX12_turn_31 : decode cX12_turn 31 = .ok (.iconst 0, 1) := by decide +kernel
theorem dX12_turn_32 : decode cX12_turn 32 = .ok (.dup2, 1) := by decide +kernel
theorem dX12_turn_33 : decode cX12_turn 33 = .ok (.iaload, 1) := by decide +kernel
theorem dX12_turn_34 : decode cX12_turn 34 = .ok (.iconst 1, 1) := by decide +kernel
theorem dX12_turn_35 : decode cX12_turn 35 = .ok (.iload_n 1, 1) := by decide +kernel
theorem dX12_turn_36 : decode cX12_turn 36 = .ok (.ishl, 1) := by decide +kernel
theorem dX12_turn_37 : decode cX12_turn 37 = .ok (.ixor, 1) := by decide +kernel
theorem dX12_turn_38 : decode cX12_turn 38 = .ok (.iastore, 1) := by decide +kernel
theorem dX12_turn_39 : decode cX12_turn 39 = .ok (.aload_n 0, 1) := by decide +kernel
theorem dX12_turn_40 : decode cX12_turn 40 = .ok (.getfield 179, 3) := by decide +kernel
theorem dX12_turn_43 : decode cX12_turn 43 = .ok (.iconst 0, 1) := by decide +kernel
theorem dX12_turn_44 : decode cX12_turn 44 = .ok (.iaload, 1) := by decide +kernel
theorem dX12_turn_45 : decode cX12_turn 45 = .ok (.iload_n 1, 1) := by decide +kernel
theorem dX12_turn_46 : decode cX12_turn 46 = .ok (.ishr, 1) := by decide +kernel
theorem dX12_turn_47 : decode cX12_turn 47 = .ok (.iconst 1, 1) := by decide +kernel
theorem dX12_turn_48 : decode cX12_turn 48 = .ok (.iand, 1) := by decide +kernel
theorem dX12_turn_49 : decode cX12_turn 49 = .ok (.ireturn, 1) := by decide +kernel
theorem dX12_choose_0 : decode cX12_choose 0 = .ok (.aload_n 0, 1) := by decide +kernel
theorem dX12_choose_1 : decode cX12_choose 1 = .ok (.getfield 146, 3) := by decide +kernel
theorem dX12_choose_4 : decode cX12_choose 4 = .ok (.ifCond .eq 22, 3) := by decide +kernel
theorem dX12_choose_7 : decode cX12_choose 7 = .ok (.iload_n 1, 1) := by decide +kernel
theorem dX12_choose_8 : decode cX12_choose 8 = .ok (.iconst 0, 1) := by decide +kernel
theorem dX12_choose_9 : decode cX12_choose 9 = .ok (.iconst 3, 1) := by decide +kernel
theorem dX12_choose_10 : decode cX12_choose 10 = .ok (.invokestatic 362, 3) := by decide +kernel
theorem dX12_choose_13 : decode cX12_choose 13 = .ok (.ifCond .eq 13, 3) := by decide +kernel
theorem dX12_choose_16 : decode cX12_choose 16 = .ok (.aload_n 0, 1) := by decide +kernel
theorem dX12_choose_17 : decode cX12_choose 17 = .ok (.getfield 182, 3) := by decide +kernel
theorem dX12_choose_20 : decode cX12_choose 20 = .ok (.iconst 0, 1) := by decide +kernel
theorem dX12_choose_21 : decode cX12_choose 21 = .ok (.iaload, 1) := by decide +kernel
theorem dX12_choose_22 : decode cX12_choose 22 = .ok (.iload_n 1, 1) := by decide +kernel
theorem dX12_choose_23 : decode cX12_choose 23 = .ok (.if_icmp .ne 17, 3) := by decide +kernel
theorem dX12_choose_26 : decode cX12_choose 26 = .ok (.aload_n 0, 1) := by decide +kernel
theorem dX12_choose_27 : decode cX12_choose 27 = .ok (.iconst 3, 1) := by decide +kernel
theorem dX12_choose_28 : decode cX12_choose 28 = .ok (.invokevirtual 312, 3) := by decide +kernel
theorem dX12_choose_31 : decode cX12_choose 31 = .ok (.ifCond .lt 7, 3) := by decide +kernel
theorem dX12_choose_34 : decode cX12_choose 34 = .ok (.iconst 1, 1) := by decide +kernel
theorem dX12_choose_35 : decode cX12_choose 35 = .ok (.goto 4, 3) := by decide +kernel
theorem dX12_choose_38 : decode cX12_choose 38 = .ok (.iconst 0, 1) := by decide +kernel
theorem dX12_choose_39 : decode cX12_choose 39 = .ok (.ireturn, 1) := by decide +kernel
theorem dX12_choose_40 : decode cX12_choose 40 = .ok (.aload_n 0, 1) := by decide +kernel
theorem dX12_choose_41 : decode cX12_choose 41 = .ok (.invokevirtual 628, 3) := by decide +kernel
theorem dX12_choose_44 : decode cX12_choose 44 = .ok (.aload_n 0, 1) := by decide +kernel
theorem dX12_choose_45 : decode cX12_choose 45 = .ok (.getfield 182, 3) := by decide +kernel
theorem dX12_choose_48 : decode cX12_choose 48 = .ok (.iconst 0, 1) := by decide +kernel
theorem dX12_choose_49 : decode cX12_choose 49 = .ok (.iload_n 1, 1) := by decide +kernel
theorem dX12_choose_50 : decode cX12_choose 50 = .ok (.iastore, 1) := by decide +kernel
theorem dX12_choose_51 : decode cX12_choose 51 = .ok (.iconst 1, 1) := by decide +kernel
theorem dX12_choose_52 : decode cX12_choose 52 = .ok (.ireturn, 1) := by decide +kernel
theorem dX12_seed_0 : decode cX12_seed 0 = .ok (.iload_n 1, 1) := by decide +kernel
theorem dX12_seed_1 : decode cX12_seed 1 = .ok (.ifCond .ge 17, 3) := by decide +kernel
theorem dX12_seed_4 : decode cX12_seed 4 = .ok (.aload_n 0, 1) := by decide +kernel
theorem dX12_seed_5 : decode cX12_seed 5 = .ok (.iconst 5, 1) := by decide +kernel
theorem dX12_seed_6 : decode cX12_seed 6 = .ok (.invokevirtual 312, 3) := by decide +kernel
theorem dX12_seed_9 : decode cX12_seed 9 = .ok (.ifCond .lt 7, 3) := by decide +kernel
theorem dX12_seed_12 : decode cX12_seed 12 = .ok (.iconst 1, 1) := by decide +kernel
theorem dX12_seed_13 : decode cX12_seed 13 = .ok (.goto 4, 3) := by decide +kernel
theorem dX12_seed_16 : decode cX12_seed 16 = .ok (.iconst 0, 1) := by decide +kernel
theorem dX12_seed_17 : decode cX12_seed 17 = .ok (.ireturn, 1) := by decide +kernel
theorem dX12_seed_18 : decode cX12_seed 18 = .ok (.aload_n 0, 1) := by decide +kernel
theorem dX12_seed_19 : decode cX12_seed 19 = .ok (.iload_n 1, 1) := by decide +kernel
theorem dX12_seed_20 : decode cX12_seed 20 = .ok (.i2l, 1) := by decide +kernel
theorem dX12_seed_21 : decode cX12_seed 21 = .ok (.putfield 197, 3) := by decide +kernel
theorem dX12_seed_24 : decode cX12_seed 24 = .ok (.iconst 1, 1) := by decide +kernel
theorem dX12_seed_25 : decode cX12_seed 25 = .ok (.ireturn, 1) := by decide +kernel
theorem dX12_kept_0 : decode cX12_kept 0 = .ok (.iload_n 1, 1) := by decide +kernel
theorem dX12_kept_1 : decode cX12_kept 1 = .ok (.iconst 0, 1) := by decide +kernel
theorem dX12_kept_2 : decode cX12_kept 2 = .ok (.aload_n 0, 1) := by decide +kernel
theorem dX12_kept_3 : decode cX12_kept 3 = .ok (.getfield 185, 3) := by decide +kernel
theorem dX12_kept_6 : decode cX12_kept 6 = .ok (.iconst 0, 1) := by decide +kernel
theorem dX12_kept_7 : decode cX12_kept 7 = .ok (.iaload, 1) := by decide +kernel
theorem dX12_kept_8 : decode cX12_kept 8 = .ok (.iconst 1, 1) := by decide +kernel
theorem dX12_kept_9 : decode cX12_kept 9 = .ok (.isub, 1) := by decide +kernel
theorem dX12_kept_10 : decode cX12_kept 10 = .ok (.invokestatic 362, 3) := by decide +kernel
theorem dX12_kept_13 : decode cX12_kept 13 = .ok (.ifCond .eq 25, 3) := by decide +kernel
theorem dX12_kept_16 : decode cX12_kept 16 = .ok (.iload_n 2, 1) := by decide +kernel
theorem dX12_kept_17 : decode cX12_kept 17 = .ok (.iconst 0, 1) := by decide +kernel
theorem dX12_kept_18 : decode cX12_kept 18 = .ok (.iconst 2, 1) := by decide +kernel
theorem dX12_kept_19 : decode cX12_kept 19 = .ok (.invokestatic 362, 3) := by decide +kernel
theorem dX12_kept_22 : decode cX12_kept 22 = .ok (.ifCond .eq 16, 3) := by decide +kernel
theorem dX12_kept_25 : decode cX12_kept 25 = .ok (.aload_n 0, 1) := by decide +kernel
theorem dX12_kept_26 : decode cX12_kept 26 = .ok (.getfield 188, 3) := by decide +kernel
theorem dX12_kept_29 : decode cX12_kept 29 = .ok (.iconst 3, 1) := by decide +kernel
theorem dX12_kept_30 : decode cX12_kept 30 = .ok (.iload_n 1, 1) := by decide +kernel
theorem dX12_kept_31 : decode cX12_kept 31 = .ok (.imul, 1) := by decide +kernel
theorem dX12_kept_32 : decode cX12_kept 32 = .ok (.iload_n 2, 1) := by decide +kernel
theorem dX12_kept_33 : decode cX12_kept 33 = .ok (.iadd, 1) := by decide +kernel
theorem dX12_kept_34 : decode cX12_kept 34 = .ok (.iaload, 1) := by decide +kernel
theorem dX12_kept_35 : decode cX12_kept 35 = .ok (.goto 4, 3) := by decide +kernel
theorem dX12_kept_38 : decode cX12_kept 38 = .ok (.iconst (-1), 1) := by decide +kernel
theorem dX12_kept_39 : decode cX12_kept 39 = .ok (.ireturn, 1) := by decide +kernel
theorem dX12_image_0 : decode cX12_image 0 = .ok (.aload_n 0, 1) := by decide +kernel
theorem dX12_image_1 : decode cX12_image 1 = .ok (.iconst 0, 1) := by decide +kernel
theorem dX12_image_2 : decode cX12_image 2 = .ok (.putfield 224, 3) := by decide +kernel
theorem dX12_image_5 : decode cX12_image 5 = .ok (.aload_n 0, 1) := by decide +kernel
theorem dX12_image_6 : decode cX12_image 6 = .ok (.aload_n 0, 1) := by decide +kernel
theorem dX12_image_7 : decode cX12_image 7 = .ok (.getfield 173, 3) := by decide +kernel
theorem dX12_image_10 : decode cX12_image 10 = .ok (.iconst 0, 1) := by decide +kernel
theorem dX12_image_11 : decode cX12_image 11 = .ok (.iaload, 1) := by decide +kernel
theorem dX12_image_12 : decode cX12_image 12 = .ok (.invokevirtual 528, 3) := by decide +kernel
theorem dX12_image_15 : decode cX12_image 15 = .ok (.iconst 0, 1) := by decide +kernel
theorem dX12_image_16 : decode cX12_image 16 = .ok (.istore_n 1, 1) := by decide +kernel
theorem dX12_image_17 : decode cX12_image 17 = .ok (.iload_n 1, 1) := by decide +kernel
theorem dX12_image_18 : decode cX12_image 18 = .ok (.aload_n 0, 1) := by decide +kernel
theorem dX12_image_19 : decode cX12_image 19 = .ok (.getfield 173, 3) := by decide +kernel
theorem dX12_image_22 : decode cX12_image 22 = .ok (.iconst 0, 1) := by decide +kernel
theorem dX12_image_23 : decode cX12_image 23 = .ok (.iaload, 1) := by decide +kernel
theorem dX12_image_24 : decode cX12_image 24 = .ok (.if_icmp .ge 19, 3) := by decide +kernel
theorem dX12_image_27 : decode cX12_image 27 = .ok (.aload_n 0, 1) := by decide +kernel
theorem dX12_image_28 : decode cX12_image 28 = .ok (.aload_n 0, 1) := by decide +kernel
theorem dX12_image_29 : decode cX12_image 29 = .ok (.getfield 176, 3) := by decide +kernel
theorem dX12_image_32 : decode cX12_image 32 = .ok (.iload_n 1, 1) := by decide +kernel
theorem dX12_image_33 : decode cX12_image 33 = .ok (.iaload, 1) := by decide +kernel
theorem dX12_image_34 : decode cX12_image 34 = .ok (.invokevirtual 528, 3) := by decide +kernel
theorem dX12_image_37 : decode cX12_image 37 = .ok (.iinc 1 1, 3) := by decide +kernel
theorem dX12_image_40 : decode cX12_image 40 = .ok (.goto (-23), 3) := by decide +kernel
theorem dX12_image_43 : decode cX12_image 43 = .ok (.aload_n 0, 1) := by decide +kernel
theorem dX12_image_44 : decode cX12_image 44 = .ok (.aload_n 0, 1) := by decide +kernel
theorem dX12_image_45 : decode cX12_image 45 = .ok (.getfield 179, 3) := by decide +kernel
theorem dX12_image_48 : decode cX12_image 48 = .ok (.iconst 0, 1) := by decide +kernel
theorem dX12_image_49 : decode cX12_image 49 = .ok (.iaload, 1) := by decide +kernel
theorem dX12_image_50 : decode cX12_image 50 = .ok (.invokevirtual 528, 3) := by decide +kernel
theorem dX12_image_53 : decode cX12_image 53 = .ok (.aload_n 0, 1) := by decide +kernel
theorem dX12_image_54 : decode cX12_image 54 = .ok (.aload_n 0, 1) := by decide +kernel
theorem dX12_image_55 : decode cX12_image 55 = .ok (.getfield 182, 3) := by decide +kernel
theorem dX12_image_58 : decode cX12_image 58 = .ok (.iconst 0, 1) := by decide +kernel
theorem dX12_image_59 : decode cX12_image 59 = .ok (.iaload, 1) := by decide +kernel
theorem dX12_image_60 : decode cX12_image 60 = .ok (.invokevirtual 528, 3) := by decide +kernel
theorem dX12_image_63 : decode cX12_image 63 = .ok (.sipush 199, 3) := by decide +kernel
theorem dX12_image_66 : decode cX12_image 66 = .ok (.istore_n 1, 1) := by decide +kernel
theorem dX12_image_67 : decode cX12_image 67 = .ok (.iconst 0, 1) := by decide +kernel
theorem dX12_image_68 : decode cX12_image 68 = .ok (.istore_n 2, 1) := by decide +kernel
theorem dX12_image_69 : decode cX12_image 69 = .ok (.iload_n 2, 1) := by decide +kernel
theorem dX12_image_70 : decode cX12_image 70 = .ok (.aload_n 0, 1) := by decide +kernel
theorem dX12_image_71 : decode cX12_image 71 = .ok (.getfield 224, 3) := by decide +kernel
theorem dX12_image_74 : decode cX12_image 74 = .ok (.if_icmp .ge 24, 3) := by decide +kernel
theorem dX12_image_77 : decode cX12_image 77 = .ok (.iconst 5, 1) := by decide +kernel
theorem dX12_image_78 : decode cX12_image 78 = .ok (.iload_n 1, 1) := by decide +kernel
theorem dX12_image_79 : decode cX12_image 79 = .ok (.imul, 1) := by decide +kernel
theorem dX12_image_80 : decode cX12_image 80 = .ok (.aload_n 0, 1) := by decide +kernel
theorem dX12_image_81 : decode cX12_image 81 = .ok (.getfield 221, 3) := by decide +kernel
theorem dX12_image_84 : decode cX12_image 84 = .ok (.iload_n 2, 1) := by decide +kernel
theorem dX12_image_85 : decode cX12_image 85 = .ok (.iaload, 1) := by decide +kernel
theorem dX12_image_86 : decode cX12_image 86 = .ok (.iadd, 1) := by decide +kernel
theorem dX12_image_87 : decode cX12_image 87 = .ok (.sipush 251, 3) := by decide +kernel
theorem dX12_image_90 : decode cX12_image 90 = .ok (.irem, 1) := by decide +kernel
theorem dX12_image_91 : decode cX12_image 91 = .ok (.istore_n 1, 1) := by decide +kernel
theorem dX12_image_92 : decode cX12_image 92 = .ok (.iinc 2 1, 3) := by decide +kernel
theorem dX12_image_95 : decode cX12_image 95 = .ok (.goto (-26), 3) := by decide +kernel
theorem dX12_image_98 : decode cX12_image 98 = .ok (.aload_n 0, 1) := by decide +kernel
theorem dX12_image_99 : decode cX12_image 99 = .ok (.iload_n 1, 1) := by decide +kernel
theorem dX12_image_100 : decode cX12_image 100 = .ok (.invokevirtual 528, 3) := by decide +kernel
theorem dX12_image_103 : decode cX12_image 103 = .ok (.aload_n 0, 1) := by decide +kernel
theorem dX12_image_104 : decode cX12_image 104 = .ok (.getfield 224, 3) := by decide +kernel
theorem dX12_image_107 : decode cX12_image 107 = .ok (.ireturn, 1) := by decide +kernel
theorem dX12_comesOn_0 : decode cX12_comesOn 0 = .ok (.aload_n 0, 1) := by decide +kernel
theorem dX12_comesOn_1 : decode cX12_comesOn 1 = .ok (.getfield 146, 3) := by decide +kernel
theorem dX12_comesOn_4 : decode cX12_comesOn 4 = .ok (.ifCond .eq 38, 3) := by decide +kernel
theorem dX12_comesOn_7 : decode cX12_comesOn 7 = .ok (.iload_n 1, 1) := by decide +kernel
theorem dX12_comesOn_8 : decode cX12_comesOn 8 = .ok (.iconst 4, 1) := by decide +kernel
theorem dX12_comesOn_9 : decode cX12_comesOn 9 = .ok (.if_icmp .lt 33, 3) := by decide +kernel
theorem dX12_comesOn_12 : decode cX12_comesOn 12 = .ok (.aload_n 0, 1) := by decide +kernel
theorem dX12_comesOn_13 : decode cX12_comesOn 13 = .ok (.getfield 7, 3) := by decide +kernel
theorem dX12_comesOn_16 : decode cX12_comesOn 16 = .ok (.iconst 0, 1) := by decide +kernel
theorem dX12_comesOn_17 : decode cX12_comesOn 17 = .ok (.iaload, 1) := by decide +kernel
theorem dX12_comesOn_18 : decode cX12_comesOn 18 = .ok (.aload_n 0, 1) := by decide +kernel
theorem dX12_comesOn_19 : decode cX12_comesOn 19 = .ok (.getfield 87, 3) := by decide +kernel
theorem dX12_comesOn_22 : decode cX12_comesOn 22 = .ok (.aload_n 0, 1) := by decide +kernel
theorem dX12_comesOn_23 : decode cX12_comesOn 23 = .ok (.getfield 51, 3) := by decide +kernel
theorem dX12_comesOn_26 : decode cX12_comesOn 26 = .ok (.iaload, 1) := by decide +kernel
theorem dX12_comesOn_27 : decode cX12_comesOn 27 = .ok (.if_icmp .gt 15, 3) := by decide +kernel
theorem dX12_comesOn_30 : decode cX12_comesOn 30 = .ok (.iload_n 1, 1) := by decide +kernel
theorem dX12_comesOn_31 : decode cX12_comesOn 31 = .ok (.aload_n 0, 1) := by decide +kernel
theorem dX12_comesOn_32 : decode cX12_comesOn 32 = .ok (.getfield 7, 3) := by decide +kernel
theorem dX12_comesOn_35 : decode cX12_comesOn 35 = .ok (.iconst 0, 1) := by decide +kernel
theorem dX12_comesOn_36 : decode cX12_comesOn 36 = .ok (.iaload, 1) := by decide +kernel
theorem dX12_comesOn_37 : decode cX12_comesOn 37 = .ok (.iconst 4, 1) := by decide +kernel
theorem dX12_comesOn_38 : decode cX12_comesOn 38 = .ok (.iadd, 1) := by decide +kernel
theorem dX12_comesOn_39 : decode cX12_comesOn 39 = .ok (.if_icmp .eq 5, 3) := by decide +kernel
theorem dX12_comesOn_42 : decode cX12_comesOn 42 = .ok (.iconst 0, 1) := by decide +kernel
theorem dX12_comesOn_43 : decode cX12_comesOn 43 = .ok (.ireturn, 1) := by decide +kernel
theorem dX12_comesOn_44 : decode cX12_comesOn 44 = .ok (.sipush 199, 3) := by decide +kernel
theorem dX12_comesOn_47 : decode cX12_comesOn 47 = .ok (.istore_n 2, 1) := by decide +kernel
theorem dX12_comesOn_48 : decode cX12_comesOn 48 = .ok (.iconst 0, 1) := by decide +kernel
theorem dX12_comesOn_49 : decode cX12_comesOn 49 = .ok (.istore_n 3, 1) := by decide +kernel
theorem dX12_comesOn_50 : decode cX12_comesOn 50 = .ok (.iload_n 3, 1) := by decide +kernel
theorem dX12_comesOn_51 : decode cX12_comesOn 51 = .ok (.iload_n 1, 1) := by decide +kernel
theorem dX12_comesOn_52 : decode cX12_comesOn 52 = .ok (.iconst 1, 1) := by decide +kernel
theorem dX12_comesOn_53 : decode cX12_comesOn 53 = .ok (.isub, 1) := by decide +kernel
theorem dX12_comesOn_54 : decode cX12_comesOn 54 = .ok (.if_icmp .ge 24, 3) := by decide +kernel
theorem dX12_comesOn_57 : decode cX12_comesOn 57 = .ok (.iconst 5, 1) := by decide +kernel
theorem dX12_comesOn_58 : decode cX12_comesOn 58 = .ok (.iload_n 2, 1) := by decide +kernel
theorem dX12_comesOn_59 : decode cX12_comesOn 59 = .ok (.imul, 1) := by decide +kernel
theorem dX12_comesOn_60 : decode cX12_comesOn 60 = .ok (.aload_n 0, 1) := by decide +kernel
theorem dX12_comesOn_61 : decode cX12_comesOn 61 = .ok (.getfield 7, 3) := by decide +kernel
theorem dX12_comesOn_64 : decode cX12_comesOn 64 = .ok (.iload_n 3, 1) := by decide +kernel
theorem dX12_comesOn_65 : decode cX12_comesOn 65 = .ok (.iaload, 1) := by decide +kernel
theorem dX12_comesOn_66 : decode cX12_comesOn 66 = .ok (.iadd, 1) := by decide +kernel
theorem dX12_comesOn_67 : decode cX12_comesOn 67 = .ok (.sipush 251, 3) := by decide +kernel
theorem dX12_comesOn_70 : decode cX12_comesOn 70 = .ok (.irem, 1) := by decide +kernel
theorem dX12_comesOn_71 : decode cX12_comesOn 71 = .ok (.istore_n 2, 1) := by decide +kernel
theorem dX12_comesOn_72 : decode cX12_comesOn 72 = .ok (.iinc 3 1, 3) := by decide +kernel
theorem dX12_comesOn_75 : decode cX12_comesOn 75 = .ok (.goto (-25), 3) := by decide +kernel
theorem dX12_comesOn_78 : decode cX12_comesOn 78 = .ok (.aload_n 0, 1) := by decide +kernel
theorem dX12_comesOn_79 : decode cX12_comesOn 79 = .ok (.getfield 7, 3) := by decide +kernel
theorem dX12_comesOn_82 : decode cX12_comesOn 82 = .ok (.iload_n 1, 1) := by decide +kernel
theorem dX12_comesOn_83 : decode cX12_comesOn 83 = .ok (.iconst 1, 1) := by decide +kernel
theorem dX12_comesOn_84 : decode cX12_comesOn 84 = .ok (.isub, 1) := by decide +kernel
theorem dX12_comesOn_85 : decode cX12_comesOn 85 = .ok (.iaload, 1) := by decide +kernel
theorem dX12_comesOn_86 : decode cX12_comesOn 86 = .ok (.iload_n 2, 1) := by decide +kernel
theorem dX12_comesOn_87 : decode cX12_comesOn 87 = .ok (.if_icmp .ne 15, 3) := by decide +kernel
theorem dX12_comesOn_90 : decode cX12_comesOn 90 = .ok (.aload_n 0, 1) := by decide +kernel
theorem dX12_comesOn_91 : decode cX12_comesOn 91 = .ok (.getfield 7, 3) := by decide +kernel
theorem dX12_comesOn_94 : decode cX12_comesOn 94 = .ok (.iload_n 1, 1) := by decide +kernel
theorem dX12_comesOn_95 : decode cX12_comesOn 95 = .ok (.iconst 2, 1) := by decide +kernel
theorem dX12_comesOn_96 : decode cX12_comesOn 96 = .ok (.isub, 1) := by decide +kernel
theorem dX12_comesOn_97 : decode cX12_comesOn 97 = .ok (.iaload, 1) := by decide +kernel
theorem dX12_comesOn_98 : decode cX12_comesOn 98 = .ok (.iconst 4, 1) := by decide +kernel
theorem dX12_comesOn_99 : decode cX12_comesOn 99 = .ok (.if_icmp .lt 5, 3) := by decide +kernel
theorem dX12_comesOn_102 : decode cX12_comesOn 102 = .ok (.iconst 0, 1) := by decide +kernel
theorem dX12_comesOn_103 : decode cX12_comesOn 103 = .ok (.ireturn, 1) := by decide +kernel
theorem dX12_comesOn_104 : decode cX12_comesOn 104 = .ok (.aload_n 0, 1) := by decide +kernel
theorem dX12_comesOn_105 : decode cX12_comesOn 105 = .ok (.iconst 1, 1) := by decide +kernel
theorem dX12_comesOn_106 : decode cX12_comesOn 106 = .ok (.iconst 0, 1) := by decide +kernel
theorem dX12_comesOn_107 : decode cX12_comesOn 107 = .ok (.invokevirtual 472, 3) := by decide +kernel
theorem dX12_comesOn_110 : decode cX12_comesOn 110 = .ok (.aload_n 0, 1) := by decide +kernel
theorem dX12_comesOn_111 : decode cX12_comesOn 111 = .ok (.getfield 173, 3) := by decide +kernel
theorem dX12_comesOn_114 : decode cX12_comesOn 114 = .ok (.iconst 1, 1) := by decide +kernel
theorem dX12_comesOn_115 : decode cX12_comesOn 115 = .ok (.aload_n 0, 1) := by decide +kernel
theorem dX12_comesOn_116 : decode cX12_comesOn 116 = .ok (.getfield 7, 3) := by decide +kernel
theorem dX12_comesOn_119 : decode cX12_comesOn 119 = .ok (.iconst 0, 1) := by decide +kernel
theorem dX12_comesOn_120 : decode cX12_comesOn 120 = .ok (.iaload, 1) := by decide +kernel
theorem dX12_comesOn_121 : decode cX12_comesOn 121 = .ok (.iastore, 1) := by decide +kernel
theorem dX12_comesOn_122 : decode cX12_comesOn 122 = .ok (.iconst 0, 1) := by decide +kernel
theorem dX12_comesOn_123 : decode cX12_comesOn 123 = .ok (.istore_n 3, 1) := by decide +kernel
theorem dX12_comesOn_124 : decode cX12_comesOn 124 = .ok (.iconst 0, 1) := by decide +kernel
theorem dX12_comesOn_125 : decode cX12_comesOn 125 = .ok (.istore 4, 2) := by decide +kernel
theorem dX12_comesOn_127 : decode cX12_comesOn 127 = .ok (.iload 4, 2) := by decide +kernel
theorem dX12_comesOn_129 : decode cX12_comesOn 129 = .ok (.aload_n 0, 1) := by decide +kernel
theorem dX12_comesOn_130 : decode cX12_comesOn 130 = .ok (.getfield 7, 3) := by decide +kernel
theorem dX12_comesOn_133 : decode cX12_comesOn 133 = .ok (.iconst 0, 1) := by decide +kernel
theorem dX12_comesOn_134 : decode cX12_comesOn 134 = .ok (.iaload, 1) := by decide +kernel
theorem dX12_comesOn_135 : decode cX12_comesOn 135 = .ok (.if_icmp .ge 65, 3) := by decide +kernel
theorem dX12_comesOn_138 : decode cX12_comesOn 138 = .ok (.aload_n 0, 1) := by decide +kernel
theorem dX12_comesOn_139 : decode cX12_comesOn 139 = .ok (.getfield 7, 3) := by decide +kernel
theorem dX12_comesOn_142 : decode cX12_comesOn 142 = .ok (.iconst 1, 1) := by decide +kernel
theorem dX12_comesOn_143 : decode cX12_comesOn 143 = .ok (.iload 4, 2) := by decide +kernel
theorem dX12_comesOn_145 : decode cX12_comesOn 145 = .ok (.iadd, 1) := by decide +kernel
theorem dX12_comesOn_146 : decode cX12_comesOn 146 = .ok (.iaload, 1) := by decide +kernel
theorem dX12_comesOn_147 : decode cX12_comesOn 147 = .ok (.istore 5, 2) := by decide +kernel
theorem dX12_comesOn_149 : decode cX12_comesOn 149 = .ok (.iload 5, 2) := by decide +kernel
theorem dX12_comesOn_151 : decode cX12_comesOn 151 = .ok (.aload_n 0, 1) := by decide +kernel
theorem dX12_comesOn_152 : decode cX12_comesOn 152 = .ok (.getfield 87, 3) := by decide +kernel
theorem dX12_comesOn_155 : decode cX12_comesOn 155 = .ok (.aload_n 0, 1) := by decide +kernel
theorem dX12_comesOn_156 : decode cX12_comesOn 156 = .ok (.getfield 51, 3) := by decide +kernel
theorem dX12_comesOn_159 : decode cX12_comesOn 159 = .ok (.iaload, 1) := by decide +kernel
theorem dX12_comesOn_160 : decode cX12_comesOn 160 = .ok (.if_icmp .ge 13, 3) := by decide +kernel
theorem dX12_comesOn_163 : decode cX12_comesOn 163 = .ok (.iload_n 3, 1) := by decide +kernel
theorem dX12_comesOn_164 : decode cX12_comesOn 164 = .ok (.iload 5, 2) := by decide +kernel
theorem dX12_comesOn_166 : decode cX12_comesOn 166 = .ok (.ishr, 1) := by decide +kernel
theorem dX12_comesOn_167 : decode cX12_comesOn 167 = .ok (.iconst 1, 1) := by decide +kernel
theorem dX12_comesOn_168 : decode cX12_comesOn 168 = .ok (.iand, 1) := by decide +kernel
theorem dX12_comesOn_169 : decode cX12_comesOn 169 = .ok (.iconst 1, 1) := by decide +kernel
theorem dX12_comesOn_170 : decode cX12_comesOn 170 = .ok (.if_icmp .ne 5, 3) := by decide +kernel
theorem dX12_comesOn_173 : decode cX12_comesOn 173 = .ok (.iconst 0, 1) := by decide +kernel
theorem dX12_comesOn_174 : decode cX12_comesOn 174 = .ok (.ireturn, 1) := by decide +kernel
theorem dX12_comesOn_175 : decode cX12_comesOn 175 = .ok (.iload_n 3, 1) := by decide +kernel
theorem dX12_comesOn_176 : decode cX12_comesOn 176 = .ok (.iconst 1, 1) := by decide +kernel
theorem dX12_comesOn_177 : decode cX12_comesOn 177 = .ok (.iload 5, 2) := by decide +kernel
theorem dX12_comesOn_179 : decode cX12_comesOn 179 = .ok (.ishl, 1) := by decide +kernel
theorem dX12_comesOn_180 : decode cX12_comesOn 180 = .ok (.ior, 1) := by decide +kernel
theorem dX12_comesOn_181 : decode cX12_comesOn 181 = .ok (.istore_n 3, 1) := by decide +kernel
theorem dX12_comesOn_182 : decode cX12_comesOn 182 = .ok (.aload_n 0, 1) := by decide +kernel
theorem dX12_comesOn_183 : decode cX12_comesOn 183 = .ok (.getfield 176, 3) := by decide +kernel
theorem dX12_comesOn_186 : decode cX12_comesOn 186 = .ok (.bipush 12, 2) := by decide +kernel
theorem dX12_comesOn_188 : decode cX12_comesOn 188 = .ok (.iload 4, 2) := by decide +kernel
theorem dX12_comesOn_190 : decode cX12_comesOn 190 = .ok (.iadd, 1) := by decide +kernel
theorem dX12_comesOn_191 : decode cX12_comesOn 191 = .ok (.iload 5, 2) := by decide +kernel
theorem dX12_comesOn_193 : decode cX12_comesOn 193 = .ok (.iastore, 1) := by decide +kernel
theorem dX12_comesOn_194 : decode cX12_comesOn 194 = .ok (.iinc 4 1, 3) := by decide +kernel
theorem dX12_comesOn_197 : decode cX12_comesOn 197 = .ok (.goto (-70), 3) := by decide +kernel
theorem dX12_comesOn_200 : decode cX12_comesOn 200 = .ok (.aload_n 0, 1) := by decide +kernel
theorem dX12_comesOn_201 : decode cX12_comesOn 201 = .ok (.getfield 179, 3) := by decide +kernel
theorem dX12_comesOn_204 : decode cX12_comesOn 204 = .ok (.iconst 1, 1) := by decide +kernel
theorem dX12_comesOn_205 : decode cX12_comesOn 205 = .ok (.aload_n 0, 1) := by decide +kernel
theorem dX12_comesOn_206 : decode cX12_comesOn 206 = .ok (.getfield 7, 3) := by decide +kernel
theorem dX12_comesOn_209 : decode cX12_comesOn 209 = .ok (.iload_n 1, 1) := by decide +kernel
theorem dX12_comesOn_210 : decode cX12_comesOn 210 = .ok (.iconst 3, 1) := by decide +kernel
theorem dX12_comesOn_211 : decode cX12_comesOn 211 = .ok (.isub, 1) := by decide +kernel
theorem dX12_comesOn_212 : decode cX12_comesOn 212 = .ok (.iaload, 1) := by decide +kernel
theorem dX12_comesOn_213 : decode cX12_comesOn 213 = .ok (.iastore, 1) := by decide +kernel
theorem dX12_comesOn_214 : decode cX12_comesOn 214 = .ok (.aload_n 0, 1) := by decide +kernel
theorem dX12_comesOn_215 : decode cX12_comesOn 215 = .ok (.getfield 182, 3) := by decide +kernel
theorem dX12_comesOn_218 : decode cX12_comesOn 218 = .ok (.iconst 1, 1) := by decide +kernel
theorem dX12_comesOn_219 : decode cX12_comesOn 219 = .ok (.aload_n 0, 1) := by decide +kernel
theorem dX12_comesOn_220 : decode cX12_comesOn 220 = .ok (.getfield 7, 3) := by decide +kernel
theorem dX12_comesOn_223 : decode cX12_comesOn 223 = .ok (.iload_n 1, 1) := by decide +kernel
theorem dX12_comesOn_224 : decode cX12_comesOn 224 = .ok (.iconst 2, 1) := by decide +kernel
theorem dX12_comesOn_225 : decode cX12_comesOn 225 = .ok (.isub, 1) := by decide +kernel
theorem dX12_comesOn_226 : decode cX12_comesOn 226 = .ok (.iaload, 1) := by decide +kernel
theorem dX12_comesOn_227 : decode cX12_comesOn 227 = .ok (.iastore, 1) := by decide +kernel
theorem dX12_comesOn_228 : decode cX12_comesOn 228 = .ok (.aload_n 0, 1) := by decide +kernel
theorem dX12_comesOn_229 : decode cX12_comesOn 229 = .ok (.getfield 185, 3) := by decide +kernel
theorem dX12_comesOn_232 : decode cX12_comesOn 232 = .ok (.iconst 1, 1) := by decide +kernel
theorem dX12_comesOn_233 : decode cX12_comesOn 233 = .ok (.iconst 0, 1) := by decide +kernel
theorem dX12_comesOn_234 : decode cX12_comesOn 234 = .ok (.iastore, 1) := by decide +kernel
theorem dX12_comesOn_235 : decode cX12_comesOn 235 = .ok (.iconst 1, 1) := by decide +kernel
theorem dX12_comesOn_236 : decode cX12_comesOn 236 = .ok (.ireturn, 1) := by decide +kernel
theorem dX12_on_0 : decode cX12_on 0 = .ok (.aload_n 0, 1) := by decide +kernel
theorem dX12_on_1 : decode cX12_on 1 = .ok (.getfield 13, 3) := by decide +kernel
theorem dX12_on_4 : decode cX12_on 4 = .ok (.istore_n 1, 1) := by decide +kernel
theorem dX12_on_5 : decode cX12_on 5 = .ok (.aload_n 0, 1) := by decide +kernel
theorem dX12_on_6 : decode cX12_on 6 = .ok (.iconst 0, 1) := by decide +kernel
theorem dX12_on_7 : decode cX12_on 7 = .ok (.putfield 13, 3) := by decide +kernel
theorem dX12_on_10 : decode cX12_on 10 = .ok (.aload_n 0, 1) := by decide +kernel
theorem dX12_on_11 : decode cX12_on 11 = .ok (.iload_n 1, 1) := by decide +kernel
theorem dX12_on_12 : decode cX12_on 12 = .ok (.invokevirtual 645, 3) := by decide +kernel
theorem dX12_on_15 : decode cX12_on 15 = .ok (.ifCond .ne 17, 3) := by decide +kernel
theorem dX12_on_18 : decode cX12_on 18 = .ok (.aload_n 0, 1) := by decide +kernel
theorem dX12_on_19 : decode cX12_on 19 = .ok (.iconst 5, 1) := by decide +kernel
theorem dX12_on_20 : decode cX12_on 20 = .ok (.invokevirtual 312, 3) := by decide +kernel
theorem dX12_on_23 : decode cX12_on 23 = .ok (.ifCond .lt 7, 3) := by decide +kernel
theorem dX12_on_26 : decode cX12_on 26 = .ok (.iconst 1, 1) := by decide +kernel
theorem dX12_on_27 : decode cX12_on 27 = .ok (.goto 4, 3) := by decide +kernel
theorem dX12_on_30 : decode cX12_on 30 = .ok (.iconst 0, 1) := by decide +kernel
theorem dX12_on_31 : decode cX12_on 31 = .ok (.ireturn, 1) := by decide +kernel
theorem dX12_on_32 : decode cX12_on 32 = .ok (.aload_n 0, 1) := by decide +kernel
theorem dX12_on_33 : decode cX12_on 33 = .ok (.iconst 0, 1) := by decide +kernel
theorem dX12_on_34 : decode cX12_on 34 = .ok (.iconst 1, 1) := by decide +kernel
theorem dX12_on_35 : decode cX12_on 35 = .ok (.invokevirtual 472, 3) := by decide +kernel
theorem dX12_on_38 : decode cX12_on 38 = .ok (.aload_n 0, 1) := by decide +kernel
theorem dX12_on_39 : decode cX12_on 39 = .ok (.iconst 0, 1) := by decide +kernel
theorem dX12_on_40 : decode cX12_on 40 = .ok (.putfield 194, 3) := by decide +kernel
theorem dX12_on_43 : decode cX12_on 43 = .ok (.iconst 1, 1) := by decide +kernel
theorem dX12_on_44 : decode cX12_on 44 = .ok (.ireturn, 1) := by decide +kernel
theorem dJ6_bitCount_0f7a4_0 : decode cJ6_bitCount_0f7a4 0 = .ok (.iload_n 0, 1) := by decide +kernel
theorem dJ6_bitCount_0f7a4_1 : decode cJ6_bitCount_0f7a4 1 = .ok (.iload_n 0, 1) := by decide +kernel
theorem dJ6_bitCount_0f7a4_2 : decode cJ6_bitCount_0f7a4 2 = .ok (.iconst 1, 1) := by decide +kernel
theorem dJ6_bitCount_0f7a4_3 : decode cJ6_bitCount_0f7a4 3 = .ok (.iushr, 1) := by decide +kernel
theorem dJ6_bitCount_0f7a4_4 : decode cJ6_bitCount_0f7a4 4 = .ok (.ldc_w 265, 3) := by decide +kernel
theorem dJ6_bitCount_0f7a4_7 : decode cJ6_bitCount_0f7a4 7 = .ok (.iand, 1) := by decide +kernel
theorem dJ6_bitCount_0f7a4_8 : decode cJ6_bitCount_0f7a4 8 = .ok (.isub, 1) := by decide +kernel
theorem dJ6_bitCount_0f7a4_9 : decode cJ6_bitCount_0f7a4 9 = .ok (.istore_n 0, 1) := by decide +kernel
theorem dJ6_bitCount_0f7a4_10 : decode cJ6_bitCount_0f7a4 10 = .ok (.iload_n 0, 1) := by decide +kernel
theorem dJ6_bitCount_0f7a4_11 : decode cJ6_bitCount_0f7a4 11 = .ok (.ldc_w 266, 3) := by decide +kernel
theorem dJ6_bitCount_0f7a4_14 : decode cJ6_bitCount_0f7a4 14 = .ok (.iand, 1) := by decide +kernel
theorem dJ6_bitCount_0f7a4_15 : decode cJ6_bitCount_0f7a4 15 = .ok (.iload_n 0, 1) := by decide +kernel
theorem dJ6_bitCount_0f7a4_16 : decode cJ6_bitCount_0f7a4 16 = .ok (.iconst 2, 1) := by decide +kernel
theorem dJ6_bitCount_0f7a4_17 : decode cJ6_bitCount_0f7a4 17 = .ok (.iushr, 1) := by decide +kernel
theorem dJ6_bitCount_0f7a4_18 : decode cJ6_bitCount_0f7a4 18 = .ok (.ldc_w 266, 3) := by decide +kernel
theorem dJ6_bitCount_0f7a4_21 : decode cJ6_bitCount_0f7a4 21 = .ok (.iand, 1) := by decide +kernel
theorem dJ6_bitCount_0f7a4_22 : decode cJ6_bitCount_0f7a4 22 = .ok (.iadd, 1) := by decide +kernel
theorem dJ6_bitCount_0f7a4_23 : decode cJ6_bitCount_0f7a4 23 = .ok (.istore_n 0, 1) := by decide +kernel
theorem dJ6_bitCount_0f7a4_24 : decode cJ6_bitCount_0f7a4 24 = .ok (.iload_n 0, 1) := by decide +kernel
theorem dJ6_bitCount_0f7a4_25 : decode cJ6_bitCount_0f7a4 25 = .ok (.iload_n 0, 1) := by decide +kernel
