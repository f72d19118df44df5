theorem dX11_drop_11 : decode cX11_drop 11 = .ok (.aload_n 0, 1) := by decide +kernel
theorem dX11_drop_12 : decode cX11_drop 12 = .ok (.iconst 3, 1) := by decide +kernel
theorem dX11_drop_13 : decode cX11_drop 13 = .ok (.invokevirtual 103, 3) := by decide +kernel
theorem dX11_drop_16 : decode cX11_drop 16 = .ok (.ireturn, 1) := by decide +kernel
theorem dX11_drop_17 : decode cX11_drop 17 = .ok (.aload_n 0, 1) := by decide +kernel
theorem dX11_drop_18 : decode cX11_drop 18 = .ok (.invokevirtual 388, 3) := by decide +kernel
theorem dX11_drop_21 : decode cX11_drop 21 = .ok (.aload_n 0, 1) := by decide +kernel
theorem dX11_drop_22 : decode cX11_drop 22 = .ok (.getfield 43, 3) := by decide +kernel
theorem dX11_drop_25 : decode cX11_drop 25 = .ok (.iload_n 1, 1) := by decide +kernel
theorem dX11_drop_26 : decode cX11_drop 26 = .ok (.invokevirtual 406, 3) := by decide +kernel
theorem dX11_drop_29 : decode cX11_drop 29 = .ok (.iconst 1, 1) := by decide +kernel
theorem dX11_drop_30 : decode cX11_drop 30 = .ok (.ireturn, 1) := by decide +kernel
theorem dX11_turn_0 : decode cX11_turn 0 = .ok (.aload_n 0, 1) := by decide +kernel
theorem dX11_turn_1 : decode cX11_turn 1 = .ok (.invokevirtual 204, 3) := by decide +kernel
theorem dX11_turn_4 : decode cX11_turn 4 = .ok (.ifCond .eq 13, 3) := by decide +kernel
theorem dX11_turn_7 : decode cX11_turn 7 = .ok (.iload_n 1, 1) := by decide +kernel
theorem dX11_turn_8 : decode cX11_turn 8 = .ok (.ifCond .lt 9, 3) := by decide +kernel
theorem dX11_turn_11 : decode cX11_turn 11 = .ok (.iload_n 1, 1) := by decide +kernel
theorem dX11_turn_12 : decode cX11_turn 12 = .ok (.bipush 8, 2) := by decide +kernel
theorem dX11_turn_14 : decode cX11_turn 14 = .ok (.if_icmp .lt 11, 3) := by decide +kernel
theorem dX11_turn_17 : decode cX11_turn 17 = .ok (.aload_n 0, 1) := by decide +kernel
theorem dX11_turn_18 : decode cX11_turn 18 = .ok (.iconst 3, 1) := by decide +kernel
theorem dX11_turn_19 : decode cX11_turn 19 = .ok (.invokevirtual 103, 3) := by decide +kernel
theorem dX11_turn_22 : decode cX11_turn 22 = .ok (.pop, 1) := by decide +kernel
theorem dX11_turn_23 : decode cX11_turn 23 = .ok (.iconst (-1), 1) := by decide +kernel
theorem dX11_turn_24 : decode cX11_turn 24 = .ok (.ireturn, 1) := by decide +kernel
theorem dX11_turn_25 : decode cX11_turn 25 = .ok (.aload_n 0, 1) := by decide +kernel
theorem dX11_turn_26 : decode cX11_turn 26 = .ok (.invokevirtual 388, 3) := by decide +kernel
theorem dX11_turn_29 : decode cX11_turn 29 = .ok (.aload_n 0, 1) := by decide +kernel
theorem dX11_turn_30 : decode cX11_turn 30 = .ok (.getfield 43, 3) := by decide +kernel
theorem dX11_turn_33 : decode cX11_turn 33 = .ok (.dup, 1) := by decide +kernel
theorem dX11_turn_34 : decode cX11_turn 34 = .ok (.getfield 177, 3) := by decide +kernel
theorem dX11_turn_37 : decode cX11_turn 37 = .ok (.iconst 1, 1) := by decide +kernel
theorem dX11_turn_38 : decode cX11_turn 38 = .ok (.iload_n 1, 1) := by decide +kernel
theorem dX11_turn_39 : decode cX11_turn 39 = .ok (.ishl, 1) := by decide +kernel
theorem dX11_turn_40 : decode cX11_turn 40 = .ok (.ixor, 1) := by decide +kernel
theorem dX11_turn_41 : decode cX11_turn 41 = .ok (.putfield 177, 3) := by decide +kernel
theorem dX11_turn_44 : decode cX11_turn 44 = .ok (.aload_n 0, 1) := by decide +kernel
theorem dX11_turn_45 : decode cX11_turn 45 = .ok (.getfield 43, 3) := by decide +kernel
theorem dX11_turn_48 : decode cX11_turn 48 = .ok (.getfield 177, 3) := by decide +kernel
theorem dX11_turn_51 : decode cX11_turn 51 = .ok (.iload_n 1, 1) := by decide +kernel
theorem dX11_turn_52 : decode cX11_turn 52 = .ok (.invokestatic 234, 3) := by decide +kernel
theorem dX11_turn_55 : decode cX11_turn 55 = .ok (.ifCond .eq 7, 3) := by decide +kernel
theorem dX11_turn_58 : decode cX11_turn 58 = .ok (.iconst 1, 1) := by decide +kernel
theorem dX11_turn_59 : decode cX11_turn 59 = .ok (.goto 4, 3) := by decide +kernel
theorem dX11_turn_62 : decode cX11_turn 62 = .ok (.iconst 0, 1) := by decide +kernel
theorem dX11_turn_63 : decode cX11_turn 63 = .ok (.ireturn, 1) := by decide +kernel
theorem dX11_choose_0 : decode cX11_choose 0 = .ok (.aload_n 0, 1) := by decide +kernel
theorem dX11_choose_1 : decode cX11_choose 1 = .ok (.invokevirtual 204, 3) := by decide +kernel
theorem dX11_choose_4 : decode cX11_choose 4 = .ok (.ifCond .eq 21, 3) := by decide +kernel
theorem dX11_choose_7 : decode cX11_choose 7 = .ok (.iload_n 1, 1) := by decide +kernel
theorem dX11_choose_8 : decode cX11_choose 8 = .ok (.invokestatic 303, 3) := by decide +kernel
theorem dX11_choose_11 : decode cX11_choose 11 = .ok (.ifCond .eq 14, 3) := by decide +kernel
theorem dX11_choose_14 : decode cX11_choose 14 = .ok (.iload_n 1, 1) := by decide +kernel
theorem dX11_choose_15 : decode cX11_choose 15 = .ok (.aload_n 0, 1) := by decide +kernel
theorem dX11_choose_16 : decode cX11_choose 16 = .ok (.getfield 43, 3) := by decide +kernel
theorem dX11_choose_19 : decode cX11_choose 19 = .ok (.getfield 180, 3) := by decide +kernel
theorem dX11_choose_22 : decode cX11_choose 22 = .ok (.if_icmp .ne 9, 3) := by decide +kernel
theorem dX11_choose_25 : decode cX11_choose 25 = .ok (.aload_n 0, 1) := by decide +kernel
theorem dX11_choose_26 : decode cX11_choose 26 = .ok (.iconst 3, 1) := by decide +kernel
theorem dX11_choose_27 : decode cX11_choose 27 = .ok (.invokevirtual 103, 3) := by decide +kernel
theorem dX11_choose_30 : decode cX11_choose 30 = .ok (.ireturn, 1) := by decide +kernel
theorem dX11_choose_31 : decode cX11_choose 31 = .ok (.aload_n 0, 1) := by decide +kernel
theorem dX11_choose_32 : decode cX11_choose 32 = .ok (.invokevirtual 388, 3) := by decide +kernel
theorem dX11_choose_35 : decode cX11_choose 35 = .ok (.aload_n 0, 1) := by decide +kernel
theorem dX11_choose_36 : decode cX11_choose 36 = .ok (.getfield 43, 3) := by decide +kernel
theorem dX11_choose_39 : decode cX11_choose 39 = .ok (.iload_n 1, 1) := by decide +kernel
theorem dX11_choose_40 : decode cX11_choose 40 = .ok (.putfield 180, 3) := by decide +kernel
theorem dX11_choose_43 : decode cX11_choose 43 = .ok (.iconst 1, 1) := by decide +kernel
theorem dX11_choose_44 : decode cX11_choose 44 = .ok (.ireturn, 1) := by decide +kernel
theorem dX11_undo_0 : decode cX11_undo 0 = .ok (.aload_n 0, 1) := by decide +kernel
theorem dX11_undo_1 : decode cX11_undo 1 = .ok (.getfield 53, 3) := by decide +kernel
theorem dX11_undo_4 : decode cX11_undo 4 = .ok (.getfield 185, 3) := by decide +kernel
theorem dX11_undo_7 : decode cX11_undo 7 = .ok (.ifCond .ne 9, 3) := by decide +kernel
theorem dX11_undo_10 : decode cX11_undo 10 = .ok (.aload_n 0, 1) := by decide +kernel
theorem dX11_undo_11 : decode cX11_undo 11 = .ok (.iconst 4, 1) := by decide +kernel
theorem dX11_undo_12 : decode cX11_undo 12 = .ok (.invokevirtual 103, 3) := by decide +kernel
theorem dX11_undo_15 : decode cX11_undo 15 = .ok (.ireturn, 1) := by decide +kernel
theorem dX11_undo_16 : decode cX11_undo 16 = .ok (.aload_n 0, 1) := by decide +kernel
theorem dX11_undo_17 : decode cX11_undo 17 = .ok (.getfield 53, 3) := by decide +kernel
theorem dX11_undo_20 : decode cX11_undo 20 = .ok (.aload_n 0, 1) := by decide +kernel
theorem dX11_undo_21 : decode cX11_undo 21 = .ok (.getfield 43, 3) := by decide +kernel
theorem dX11_undo_24 : decode cX11_undo 24 = .ok (.invokevirtual 409, 3) := by decide +kernel
theorem dX11_undo_27 : decode cX11_undo 27 = .ok (.iconst 1, 1) := by decide +kernel
theorem dX11_undo_28 : decode cX11_undo 28 = .ok (.ireturn, 1) := by decide +kernel
theorem dX11_remember_0 : decode cX11_remember 0 = .ok (.aload_n 0, 1) := by decide +kernel
theorem dX11_remember_1 : decode cX11_remember 1 = .ok (.getfield 53, 3) := by decide +kernel
theorem dX11_remember_4 : decode cX11_remember 4 = .ok (.aload_n 0, 1) := by decide +kernel
theorem dX11_remember_5 : decode cX11_remember 5 = .ok (.getfield 43, 3) := by decide +kernel
theorem dX11_remember_8 : decode cX11_remember 8 = .ok (.invokevirtual 412, 3) := by decide +kernel
theorem dX11_remember_11 : decode cX11_remember 11 = .ok (.return_, 1) := by decide +kernel
theorem dX11_seed_0 : decode cX11_seed 0 = .ok (.iload_n 1, 1) := by decide +kernel
theorem dX11_seed_1 : decode cX11_seed 1 = .ok (.ifCond .ge 9, 3) := by decide +kernel
theorem dX11_seed_4 : decode cX11_seed 4 = .ok (.aload_n 0, 1) := by decide +kernel
theorem dX11_seed_5 : decode cX11_seed 5 = .ok (.iconst 5, 1) := by decide +kernel
theorem dX11_seed_6 : decode cX11_seed 6 = .ok (.invokevirtual 103, 3) := by decide +kernel
theorem dX11_seed_9 : decode cX11_seed 9 = .ok (.ireturn, 1) := by decide +kernel
theorem dX11_seed_10 : decode cX11_seed 10 = .ok (.aload_n 0, 1) := by decide +kernel
theorem dX11_seed_11 : decode cX11_seed 11 = .ok (.iload_n 1, 1) := by decide +kernel
theorem dX11_seed_12 : decode cX11_seed 12 = .ok (.putfield 96, 3) := by decide +kernel
theorem dX11_seed_15 : decode cX11_seed 15 = .ok (.iconst 1, 1) := by decide +kernel
theorem dX11_seed_16 : decode cX11_seed 16 = .ok (.ireturn, 1) := by decide +kernel
theorem dX11_kept_0 : decode cX11_kept 0 = .ok (.aload_n 0, 1) := by decide +kernel
theorem dX11_kept_1 : decode cX11_kept 1 = .ok (.getfield 53, 3) := by decide +kernel
theorem dX11_kept_4 : decode cX11_kept 4 = .ok (.iload_n 1, 1) := by decide +kernel
theorem dX11_kept_5 : decode cX11_kept 5 = .ok (.iload_n 2, 1) := by decide +kernel
theorem dX11_kept_6 : decode cX11_kept 6 = .ok (.invokevirtual 414, 3) := by decide +kernel
theorem dX11_kept_9 : decode cX11_kept 9 = .ok (.ireturn, 1) := by decide +kernel
theorem dX11_image_0 : decode cX11_image 0 = .ok (.aload_n 0, 1) := by decide +kernel
theorem dX11_image_1 : decode cX11_image 1 = .ok (.getfield 18, 3) := by decide +kernel
theorem dX11_image_4 : decode cX11_image 4 = .ok (.iconst 0, 1) := by decide +kernel
theorem dX11_image_5 : decode cX11_image 5 = .ok (.putfield 100, 3) := by decide +kernel
theorem dX11_image_8 : decode cX11_image 8 = .ok (.aload_n 0, 1) := by decide +kernel
theorem dX11_image_9 : decode cX11_image 9 = .ok (.getfield 18, 3) := by decide +kernel
theorem dX11_image_12 : decode cX11_image 12 = .ok (.aload_n 0, 1) := by decide +kernel
theorem dX11_image_13 : decode cX11_image 13 = .ok (.getfield 43, 3) := by decide +kernel
theorem dX11_image_16 : decode cX11_image 16 = .ok (.getfield 176, 3) := by decide +kernel
theorem dX11_image_19 : decode cX11_image 19 = .ok (.invokevirtual 264, 3) := by decide +kernel
theorem dX11_image_22 : decode cX11_image 22 = .ok (.iconst 0, 1) := by decide +kernel
theorem dX11_image_23 : decode cX11_image 23 = .ok (.istore_n 1, 1) := by decide +kernel
theorem dX11_image_24 : decode cX11_image 24 = .ok (.iload_n 1, 1) := by decide +kernel
theorem dX11_image_25 : decode cX11_image 25 = .ok (.aload_n 0, 1) := by decide +kernel
theorem dX11_image_26 : decode cX11_image 26 = .ok (.getfield 43, 3) := by decide +kernel
theorem dX11_image_29 : decode cX11_image 29 = .ok (.getfield 176, 3) := by decide +kernel
theorem dX11_image_32 : decode cX11_image 32 = .ok (.if_icmp .ge 25, 3) := by decide +kernel
theorem dX11_image_35 : decode cX11_image 35 = .ok (.aload_n 0, 1) := by decide +kernel
theorem dX11_image_36 : decode cX11_image 36 = .ok (.getfield 18, 3) := by decide +kernel
theorem dX11_image_39 : decode cX11_image 39 = .ok (.aload_n 0, 1) := by decide +kernel
theorem dX11_image_40 : decode cX11_image 40 = .ok (.getfield 43, 3) := by decide +kernel
theorem dX11_image_43 : decode cX11_image 43 = .ok (.getfield 417, 3) := by decide +kernel
theorem dX11_image_46 : decode cX11_image 46 = .ok (.iload_n 1, 1) := by decide +kernel
theorem dX11_image_47 : decode cX11_image 47 = .ok (.iaload, 1) := by decide +kernel
theorem dX11_image_48 : decode cX11_image 48 = .ok (.invokevirtual 264, 3) := by decide +kernel
theorem dX11_image_51 : decode cX11_image 51 = .ok (.iinc 1 1, 3) := by decide +kernel
theorem dX11_image_54 : decode cX11_image 54 = .ok (.goto (-30), 3) := by decide +kernel
theorem dX11_image_57 : decode cX11_image 57 = .ok (.aload_n 0, 1) := by decide +kernel
theorem dX11_image_58 : decode cX11_image 58 = .ok (.getfield 18, 3) := by decide +kernel
theorem dX11_image_61 : decode cX11_image 61 = .ok (.aload_n 0, 1) := by decide +kernel
theorem dX11_image_62 : decode cX11_image 62 = .ok (.getfield 43, 3) := by decide +kernel
theorem dX11_image_65 : decode cX11_image 65 = .ok (.getfield 177, 3) := by decide +kernel
theorem dX11_image_68 : decode cX11_image 68 = .ok (.invokevirtual 264, 3) := by decide +kernel
theorem dX11_image_71 : decode cX11_image 71 = .ok (.aload_n 0, 1) := by decide +kernel
theorem dX11_image_72 : decode cX11_image 72 = .ok (.getfield 18, 3) := by decide +kernel
theorem dX11_image_75 : decode cX11_image 75 = .ok (.aload_n 0, 1) := by decide +kernel
theorem dX11_image_76 : decode cX11_image 76 = .ok (.getfield 43, 3) := by decide +kernel
theorem dX11_image_79 : decode cX11_image 79 = .ok (.getfield 180, 3) := by decide +kernel
theorem dX11_image_82 : decode cX11_image 82 = .ok (.invokevirtual 264, 3) := by decide +kernel
theorem dX11_image_85 : decode cX11_image 85 = .ok (.aload_n 0, 1) := by decide +kernel
theorem dX11_image_86 : decode cX11_image 86 = .ok (.getfield 18, 3) := by decide +kernel
theorem dX11_image_89 : decode cX11_image 89 = .ok (.aload_n 0, 1) := by decide +kernel
theorem dX11_image_90 : decode cX11_image 90 = .ok (.getfield 18, 3) := by decide +kernel
theorem dX11_image_93 : decode cX11_image 93 = .ok (.aload_n 0, 1) := by decide +kernel
theorem dX11_image_94 : decode cX11_image 94 = .ok (.getfield 18, 3) := by decide +kernel
theorem dX11_image_97 : decode cX11_image 97 = .ok (.getfield 100, 3) := by decide +kernel
theorem dX11_image_100 : decode cX11_image 100 = .ok (.invokevirtual 420, 3) := by decide +kernel
theorem dX11_image_103 : decode cX11_image 103 = .ok (.invokevirtual 264, 3) := by decide +kernel
theorem dX11_image_106 : decode cX11_image 106 = .ok (.aload_n 0, 1) := by decide +kernel
theorem dX11_image_107 : decode cX11_image 107 = .ok (.getfield 18, 3) := by decide +kernel
theorem dX11_image_110 : decode cX11_image 110 = .ok (.getfield 100, 3) := by decide +kernel
theorem dX11_image_113 : decode cX11_image 113 = .ok (.ireturn, 1) := by decide +kernel
theorem dX11_on_0 : decode cX11_on 0 = .ok (.aload_n 0, 1) := by decide +kernel
theorem dX11_on_1 : decode cX11_on 1 = .ok (.invokevirtual 204, 3) := by decide +kernel
theorem dX11_on_4 : decode cX11_on 4 = .ok (.ifCond .eq 14, 3) := by decide +kernel
theorem dX11_on_7 : decode cX11_on 7 = .ok (.aload_n 0, 1) := by decide +kernel
theorem dX11_on_8 : decode cX11_on 8 = .ok (.invokevirtual 423, 3) := by decide +kernel
theorem dX11_on_11 : decode cX11_on 11 = .ok (.ifCond .eq 7, 3) := by decide +kernel
theorem dX11_on_14 : decode cX11_on 14 = .ok (.iconst 1, 1) := by decide +kernel
theorem dX11_on_15 : decode cX11_on 15 = .ok (.goto 4, 3) := by decide +kernel
theorem dX11_on_18 : decode cX11_on 18 = .ok (.iconst 0, 1) := by decide +kernel
theorem dX11_on_19 : decode cX11_on 19 = .ok (.istore_n 1, 1) := by decide +kernel
theorem dX11_on_20 : decode cX11_on 20 = .ok (.iload_n 1, 1) := by decide +kernel
theorem dX11_on_21 : decode cX11_on 21 = .ok (.ifCond .eq 7, 3) := by decide +kernel
theorem dX11_on_24 : decode cX11_on 24 = .ok (.aload_n 0, 1) := by decide +kernel
theorem dX11_on_25 : decode cX11_on 25 = .ok (.invokevirtual 426, 3) := by decide +kernel
theorem dX11_on_28 : decode cX11_on 28 = .ok (.aload_n 0, 1) := by decide +kernel
theorem dX11_on_29 : decode cX11_on 29 = .ok (.getfield 14, 3) := by decide +kernel
theorem dX11_on_32 : decode cX11_on 32 = .ok (.iconst 0, 1) := by decide +kernel
theorem dX11_on_33 : decode cX11_on 33 = .ok (.putfield 100, 3) := by decide +kernel
theorem dX11_on_36 : decode cX11_on 36 = .ok (.iload_n 1, 1) := by decide +kernel
theorem dX11_on_37 : decode cX11_on 37 = .ok (.ifCond .ne 11, 3) := by decide +kernel
theorem dX11_on_40 : decode cX11_on 40 = .ok (.aload_n 0, 1) := by decide +kernel
theorem dX11_on_41 : decode cX11_on 41 = .ok (.iconst 5, 1) := by decide +kernel
theorem dX11_on_42 : decode cX11_on 42 = .ok (.invokevirtual 103, 3) := by decide +kernel
theorem dX11_on_45 : decode cX11_on 45 = .ok (.ifCond .eq 7, 3) := by decide +kernel
theorem dX11_on_48 : decode cX11_on 48 = .ok (.iconst 1, 1) := by decide +kernel
theorem dX11_on_49 : decode cX11_on 49 = .ok (.goto 4, 3) := by decide +kernel
theorem dX11_on_52 : decode cX11_on 52 = .ok (.iconst 0, 1) := by decide +kernel
theorem dX11_on_53 : decode cX11_on 53 = .ok (.ireturn, 1) := by decide +kernel
theorem dX11_isImage_0 : decode cX11_isImage 0 = .ok (.aload_n 0, 1) := by decide +kernel
theorem dX11_isImage_1 : decode cX11_isImage 1 = .ok (.getfield 14, 3) := by decide +kernel
theorem dX11_isImage_4 : decode cX11_isImage 4 = .ok (.iconst 0, 1) := by decide +kernel
theorem dX11_isImage_5 : decode cX11_isImage 5 = .ok (.invokevirtual 300, 3) := by decide +kernel
theorem dX11_isImage_8 : decode cX11_isImage 8 = .ok (.istore_n 1, 1) := by decide +kernel
theorem dX11_isImage_9 : decode cX11_isImage 9 = .ok (.iload_n 1, 1) := by decide +kernel
theorem dX11_isImage_10 : decode cX11_isImage 10 = .ok (.ifCond .lt 27, 3) := by decide +kernel
theorem dX11_isImage_13 : decode cX11_isImage 13 = .ok (.iload_n 1, 1) := by decide +kernel
theorem dX11_isImage_14 : decode cX11_isImage 14 = .ok (.aload_n 0, 1) := by decide +kernel
theorem dX11_isImage_15 : decode cX11_isImage 15 = .ok (.getfield 71, 3) := by decide +kernel
theorem dX11_isImage_18 : decode cX11_isImage 18 = .ok (.getfield 123, 3) := by decide +kernel
theorem dX11_isImage_21 : decode cX11_isImage 21 = .ok (.if_icmp .gt 16, 3) := by decide +kernel
theorem dX11_isImage_24 : decode cX11_isImage 24 = .ok (.aload_n 0, 1) := by decide +kernel
theorem dX11_isImage_25 : decode cX11_isImage 25 = .ok (.getfield 14, 3) := by decide +kernel
theorem dX11_isImage_28 : decode cX11_isImage 28 = .ok (.getfield 100, 3) := by decide +kernel
theorem dX11_isImage_31 : decode cX11_isImage 31 = .ok (.iload_n 1, 1) := by decide +kernel
theorem dX11_isImage_32 : decode cX11_isImage 32 = .ok (.iconst 4, 1) := by decide +kernel
theorem dX11_isImage_33 : decode cX11_isImage 33 = .ok (.iadd, 1) := by decide +kernel
theorem dX11_isImage_34 : decode cX11_isImage 34 = .ok (.if_icmp .eq 5, 3) := by decide +kernel
theorem dX11_isImage_37 : decode cX11_isImage 37 = .ok (.iconst 0, 1) := by decide +kernel
theorem dX11_isImage_38 : decode cX11_isImage 38 = .ok (.ireturn, 1) := by decide +kernel
theorem dX11_isImage_39 : decode cX11_isImage 39 = .ok (.iconst 0, 1) := by decide +kernel
theorem dX11_isImage_40 : decode cX11_isImage 40 = .ok (.istore_n 2, 1) := by decide +kernel
theorem dX11_isImage_41 : decode cX11_isImage 41 = .ok (.iconst 0, 1) := by decide +kernel
theorem dX11_isImage_42 : decode cX11_isImage 42 = .ok (.istore_n 3, 1) := by decide +kernel
theorem dX11_isImage_43 : decode cX11_isImage 43 = .ok (.iload_n 3, 1) := by decide +kernel
theorem dX11_isImage_44 : decode cX11_isImage 44 = .ok (.iload_n 1, 1) := by decide +kernel
theorem dX11_isImage_45 : decode cX11_isImage 45 = .ok (.if_icmp .ge 56, 3) := by decide +kernel
theorem dX11_isImage_48 : decode cX11_isImage 48 = .ok (.aload_n 0, 1) := by decide +kernel
theorem dX11_isImage_49 : decode cX11_isImage 49 = .ok (.getfield 14, 3) := by decide +kernel
theorem dX11_isImage_52 : decode cX11_isImage 52 = .ok (.iconst 1, 1) := by decide +kernel
theorem dX11_isImage_53 : decode cX11_isImage 53 = .ok (.iload_n 3, 1) := by decide +kernel
theorem dX11_isImage_54 : decode cX11_isImage 54 = .ok (.iadd, 1) := by decide +kernel
theorem dX11_isImage_55 : decode cX11_isImage 55 = .ok (.invokevirtual 300, 3) := by decide +kernel
theorem dX11_isImage_58 : decode cX11_isImage 58 = .ok (.istore 4, 2) := by decide +kernel
theorem dX11_isImage_60 : decode cX11_isImage 60 = .ok (.iload 4, 2) := by decide +kernel
theorem dX11_isImage_62 : decode cX11_isImage 62 = .ok (.ifCond .lt 24, 3) := by decide +kernel
theorem dX11_isImage_65 : decode cX11_isImage 65 = .ok (.iload 4, 2) := by decide +kernel
theorem dX11_isImage_67 : decode cX11_isImage 67 = .ok (.aload_n 0, 1) := by decide +kernel
theorem dX11_isImage_68 : decode cX11_isImage 68 = .ok (.getfield 71, 3) := by decide +kernel
theorem dX11_isImage_71 : decode cX11_isImage 71 = .ok (.getfield 123, 3) := by decide +kernel
theorem dX11_isImage_74 : decode cX11_isImage 74 = .ok (.if_icmp .ge 12, 3) := by decide +kernel
theorem dX11_isImage_77 : decode cX11_isImage 77 = .ok (.iload_n 2, 1) := by decide +kernel
theorem dX11_isImage_78 : decode cX11_isImage 78 = .ok (.iload 4, 2) := by decide +kernel
theorem dX11_isImage_80 : decode cX11_isImage 80 = .ok (.invokestatic 234, 3) := by decide +kernel
theorem dX11_isImage_83 : decode cX11_isImage 83 = .ok (.ifCond .eq 5, 3) := by decide +kernel
theorem dX11_isImage_86 : decode cX11_isImage 86 = .ok (.iconst 0, 1) := by decide +kernel
theorem dX11_isImage_87 : decode cX11_isImage 87 = .ok (.ireturn, 1) := by decide +kernel
theorem dX11_isImage_88 : decode cX11_isImage 88 = .ok (.iload_n 2, 1) := by decide +kernel
theorem dX11_isImage_89 : decode cX11_isImage 89 = .ok (.iconst 1, 1) := by decide +kernel
theorem dX11_isImage_90 : decode cX11_isImage 90 = .ok (.iload 4, 2) := by decide +kernel
theorem dX11_isImage_92 : decode cX11_isImage 92 = .ok (.ishl, 1) := by decide +kernel
theorem dX11_isImage_93 : decode cX11_isImage 93 = .ok (.ior, 1) := by decide +kernel
theorem dX11_isImage_94 : decode cX11_isImage 94 = .ok (.istore_n 2, 1) := by decide +kernel
theorem dX11_isImage_95 : decode cX11_isImage 95 = .ok (.iinc 3 1, 3) := by decide +kernel
theorem dX11_isImage_98 : decode cX11_isImage 98 = .ok (.goto (-55), 3) := by decide +kernel
theorem dX11_isImage_101 : decode cX11_isImage 101 = .ok (.aload_n 0, 1) := by decide +kernel
theorem dX11_isImage_102 : decode cX11_isImage 102 = .ok (.getfield 14, 3) := by decide +kernel
theorem dX11_isImage_105 : decode cX11_isImage 105 = .ok (.iload_n 1, 1) := by decide +kernel
theorem dX11_isImage_106 : decode cX11_isImage 106 = .ok (.iconst 2, 1) := by decide +kernel
theorem dX11_isImage_107 : decode cX11_isImage 107 = .ok (.iadd, 1) := by decide +kernel
theorem dX11_isImage_108 : decode cX11_isImage 108 = .ok (.invokevirtual 300, 3) := by decide +kernel
theorem dX11_isImage_111 : decode cX11_isImage 111 = .ok (.invokestatic 303, 3) := by decide +kernel
theorem dX11_isImage_114 : decode cX11_isImage 114 = .ok (.ifCond .eq 30, 3) := by decide +kernel
theorem dX11_isImage_117 : decode cX11_isImage 117 = .ok (.aload_n 0, 1) := by decide +kernel
theorem dX11_isImage_118 : decode cX11_isImage 118 = .ok (.getfield 14, 3) := by decide +kernel
theorem dX11_isImage_121 : decode cX11_isImage 121 = .ok (.iload_n 1, 1) := by decide +kernel
theorem dX11_isImage_122 : decode cX11_isImage 122 = .ok (.iconst 3, 1) := by decide +kernel
theorem dX11_isImage_123 : decode cX11_isImage 123 = .ok (.iadd, 1) := by decide +kernel
theorem dX11_isImage_124 : decode cX11_isImage 124 = .ok (.invokevirtual 300, 3) := by decide +kernel
theorem dX11_isImage_127 : decode cX11_isImage 127 = .ok (.aload_n 0, 1) := by decide +kernel
theorem dX11_isImage_128 : decode cX11_isImage 128 = .ok (.getfield 14, 3) := by decide +kernel
theorem dX11_isImage_131 : decode cX11_isImage 131 = .ok (.iload_n 1, 1) := by decide +kernel
theorem dX11_isImage_132 : decode cX11_isImage 132 = .ok (.iconst 3, 1) := by decide +kernel
theorem dX11_isImage_133 : decode cX11_isImage 133 = .ok (.iadd, 1) := by decide +kernel
theorem dX11_isImage_134 : decode cX11_isImage 134 = .ok (.invokevirtual 420, 3) := by decide +kernel
theorem dX11_isImage_137 : decode cX11_isImage 137 = .ok (.if_icmp .ne 7, 3) := by decide +kernel
theorem dX11_isImage_140 : decode cX11_isImage 140 = .ok (.iconst 1, 1) := by decide +kernel
theorem dX11_isImage_141 : decode cX11_isImage 141 = .ok (.goto 4, 3) := by decide +kernel
theorem dX11_isImage_144 : decode cX11_isImage 144 = .ok (.iconst 0, 1) := by decide +kernel
theorem dX11_isImage_145 : decode cX11_isImage 145 = .ok (.ireturn, 1) := by decide +kernel
theorem dX11_takeImage_0 : decode cX11_takeImage 0 = .ok (.aload_n 0, 1) := by decide +kernel
theorem dX11_takeImage_1 : decode cX11_takeImage 1 = .ok (.getfield 14, 3) := by decide +kernel
theorem dX11_takeImage_4 : decode cX11_takeImage 4 = .ok (.iconst 0, 1) := by decide +kernel
theorem dX11_takeImage_5 : decode cX11_takeImage 5 = .ok (.invokevirtual 300, 3) := by decide +kernel
theorem dX11_takeImage_8 : decode cX11_takeImage 8 = .ok (.bipush 12, 2) := by decide +kernel
theorem dX11_takeImage_10 : decode cX11_takeImage 10 = .ok (.invokestatic 429, 3) := by decide +kernel
theorem dX11_takeImage_13 : decode cX11_takeImage 13 = .ok (.istore_n 1, 1) := by decide +kernel
theorem dX11_takeImage_14 : decode cX11_takeImage 14 = .ok (.iconst 0, 1) := by decide +kernel
theorem dX11_takeImage_15 : decode cX11_takeImage 15 = .ok (.istore_n 2, 1) := by decide +kernel
theorem dX11_takeImage_16 : decode cX11_takeImage 16 = .ok (.iload_n 2, 1) := by decide +kernel
theorem dX11_takeImage_17 : decode cX11_takeImage 17 = .ok (.iload_n 1, 1) := by decide +kernel
theorem dX11_takeImage_18 : decode cX11_takeImage 18 = .ok (.if_icmp .ge 28, 3) := by decide +kernel
theorem dX11_takeImage_21 : decode cX11_takeImage 21 = .ok (.aload_n 0, 1) := by decide +kernel
theorem dX11_takeImage_22 : decode cX11_takeImage 22 = .ok (.getfield 43, 3) := by decide +kernel
theorem dX11_takeImage_25 : decode cX11_takeImage 25 = .ok (.getfield 417, 3) := by decide +kernel
theorem dX11_takeImage_28 : decode cX11_takeImage 28 = .ok (.iload_n 2, 1) := by decide +kernel
theorem dX11_takeImage_29 : decode cX11_takeImage 29 = .ok (.aload_n 0, 1) := by decide +kernel
theorem dX11_takeImage_30 : decode cX11_takeImage 30 = .ok (.getfield 14, 3) := by decide +kernel
theorem dX11_takeImage_33 : decode cX11_takeImage 33 = .ok (.iconst 1, 1) := by decide +kernel
theorem dX11_takeImage_34 : decode cX11_takeImage 34 = .ok (.iload_n 2, 1) := by decide +kernel
theorem dX11_takeImage_35 : decode cX11_takeImage 35 = .ok (.iadd, 1) := by decide +kernel
theorem dX11_takeImage_36 : decode cX11_takeImage 36 = .ok (.invokevirtual 300, 3) := by decide +kernel
theorem dX11_takeImage_39 : decode cX11_takeImage 39 = .ok (.iastore, 1) := by decide +kernel
theorem dX11_takeImage_40 : decode cX11_takeImage 40 = .ok (.iinc 2 1, 3) := by decide +kernel
theorem dX11_takeImage_43 : decode cX11_takeImage 43 = .ok (.goto (-27), 3) := by decide +kernel
theorem dX11_takeImage_46 : decode cX11_takeImage 46 = .ok (.aload_n 0, 1) := by decide +kernel
theorem dX11_takeImage_47 : decode cX11_takeImage 47 = .ok (.getfield 43, 3) := by decide +kernel
theorem dX11_takeImage_50 : decode cX11_takeImage 50 = .ok (.iload_n 1, 1) := by decide +kernel
theorem dX11_takeImage_51 : decode cX11_takeImage 51 = .ok (.iconst 0, 1) := by decide +kernel
theorem dX11_takeImage_52 : decode cX11_takeImage 52 = .ok (.invokestatic 434, 3) := by decide +kernel
theorem dX11_takeImage_55 : decode cX11_takeImage 55 = .ok (.putfield 176, 3) := by decide +kernel
theorem dX11_takeImage_58 : decode cX11_takeImage 58 = .ok (.aload_n 0, 1) := by decide +kernel
theorem dX11_takeImage_59 : decode cX11_takeImage 59 = .ok (.getfield 43, 3) := by decide +kernel
theorem dX11_takeImage_62 : decode cX11_takeImage 62 = .ok (.aload_n 0, 1) := by decide +kernel
theorem dX11_takeImage_63 : decode cX11_takeImage 63 = .ok (.getfield 14, 3) := by decide +kernel
theorem dX11_takeImage_66 : decode cX11_takeImage 66 = .ok (.iload_n 1, 1) := by decide +kernel
theorem dX11_takeImage_67 : decode cX11_takeImage 67 = .ok (.iconst 1, 1) := by decide +kernel
theorem dX11_takeImage_68 : decode cX11_takeImage 68 = .ok (.iadd, 1) := by decide +kernel
theorem dX11_takeImage_69 : decode cX11_takeImage 69 = .ok (.invokevirtual 300, 3) := by decide +kernel
theorem dX11_takeImage_72 : decode cX11_takeImage 72 = .ok (.putfield 177, 3) := by decide +kernel
theorem dX11_takeImage_75 : decode cX11_takeImage 75 = .ok (.aload_n 0, 1) := by decide +kernel
theorem dX11_takeImage_76 : decode cX11_takeImage 76 = .ok (.getfield 43, 3) := by decide +kernel
theorem dX11_takeImage_79 : decode cX11_takeImage 79 = .ok (.aload_n 0, 1) := by decide +kernel
theorem dX11_takeImage_80 : decode cX11_takeImage 80 = .ok (.getfield 14, 3) := by decide +kernel
theorem dX11_takeImage_83 : decode cX11_takeImage 83 = .ok (.iload_n 1, 1) := by decide +kernel
theorem dX11_takeImage_84 : decode cX11_takeImage 84 = .ok (.iconst 2, 1) := by decide +kernel
theorem dX11_takeImage_85 : decode cX11_takeImage 85 = .ok (.iadd, 1) := by decide +kernel
theorem dX11_takeImage_86 : decode cX11_takeImage 86 = .ok (.invokevirtual 300, 3) := by decide +kernel
theorem dX11_takeImage_89 : decode cX11_takeImage 89 = .ok (.putfield 180, 3) := by decide +kernel
theorem dX11_takeImage_92 : decode cX11_takeImage 92 = .ok (.aload_n 0, 1) := by decide +kernel
theorem dX11_takeImage_93 : decode cX11_takeImage 93 = .ok (.getfield 53, 3) := by decide +kernel
theorem dX11_takeImage_96 : decode cX11_takeImage 96 = .ok (.invokevirtual 150, 3) := by decide +kernel
theorem dX11_takeImage_99 : decode cX11_takeImage 99 = .ok (.return_, 1) := by decide +kernel
theorem dX11_status_0 : decode cX11_status 0 = .ok (.iload_n 1, 1) := by decide +kernel
theorem dX11_status_1 : decode cX11_status 1 = .ok (.ifCond .lt 18, 3) := by decide +kernel
theorem dX11_status_4 : decode cX11_status 4 = .ok (.iload_n 1, 1) := by decide +kernel
theorem dX11_status_5 : decode cX11_status 5 = .ok (.bipush 6, 2) := by decide +kernel
theorem dX11_status_7 : decode cX11_status 7 = .ok (.if_icmp .ge 12, 3) := by decide +kernel
theorem dX11_status_10 : decode cX11_status 10 = .ok (.aload_n 0, 1) := by decide +kernel
theorem dX11_status_11 : decode cX11_status 11 = .ok (.getfield 64, 3) := by decide +kernel
theorem dX11_status_14 : decode cX11_status 14 = .ok (.iload_n 1, 1) := by decide +kernel
theorem dX11_status_15 : decode cX11_status 15 = .ok (.iaload, 1) := by decide +kernel
theorem dX11_status_16 : decode cX11_status 16 = .ok (.goto 4, 3) := by decide +kernel
theorem dX11_status_19 : decode cX11_status 19 = .ok (.iconst (-1), 1) := by decide +kernel
theorem dX11_status_20 : decode cX11_status 20 = .ok (.ireturn, 1) := by decide +kernel
theorem dX11_refuse_0 : decode cX11_refuse 0 = .ok (.iload_n 1, 1) := by decide +kernel
theorem dX11_refuse_1 : decode cX11_refuse 1 = .ok (.ifCond .lt 19, 3) := by decide +kernel
theorem dX11_refuse_4 : decode cX11_refuse 4 = .ok (.iload_n 1, 1) := by decide +kernel
theorem dX11_refuse_5 : decode cX11_refuse 5 = .ok (.bipush 6, 2) := by decide +kernel
theorem dX11_refuse_7 : decode cX11_refuse 7 = .ok (.if_icmp .ge 13, 3) := by decide +kernel
theorem dX11_refuse_10 : decode cX11_refuse 10 = .ok (.aload_n 0, 1) := by decide +kernel
theorem dX11_refuse_11 : decode cX11_refuse 11 = .ok (.getfield 64, 3) := by decide +kernel
theorem dX11_refuse_14 : decode cX11_refuse 14 = .ok (.iload_n 1, 1) := by decide +kernel
theorem dX11_refuse_15 : decode cX11_refuse 15 = .ok (.dup2, 1) := by decide +kernel
theorem dX11_refuse_16 : decode cX11_refuse 16 = .ok (.iaload, 1) := by decide +kernel
theorem dX11_refuse_17 : decode cX11_refuse 17 = .ok (.iconst 1, 1) := by decide +kernel
theorem dX11_refuse_18 : decode cX11_refuse 18 = .ok (.iadd, 1) := by decide +kernel
theorem dX11_refuse_19 : decode cX11_refuse 19 = .ok (.iastore, 1) := by decide +kernel
theorem dX11_refuse_20 : decode cX11_refuse 20 = .ok (.iconst 0, 1) := by decide +kernel
theorem dX11_refuse_21 : decode cX11_refuse 21 = .ok (.ireturn, 1) := by decide +kernel
theorem dX11_matched_0 : decode cX11_matched 0 = .ok (.aload_n 0, 1) := by decide +kernel
theorem dX11_matched_1 : decode cX11_matched 1 = .ok (.getfield 71, 3) := by decide +kernel
theorem dX11_matched_4 : decode cX11_matched 4 = .ok (.getfield 130, 3) := by decide +kernel
theorem dX11_matched_7 : decode cX11_matched 7 = .ok (.ifCond .le 7, 3) := by decide +kernel
theorem dX11_matched_10 : decode cX11_matched 10 = .ok (.iconst 1, 1) := by decide +kernel
theorem dX11_matched_11 : decode cX11_matched 11 = .ok (.goto 4, 3) := by decide +kernel
theorem dX11_matched_14 : decode cX11_matched 14 = .ok (.iconst 0, 1) := by decide +kernel
theorem dX11_matched_15 : decode cX11_matched 15 = .ok (.ireturn, 1) := by decide +kernel
theorem dX11_isRule_0 : decode cX11_isRule 0 = .ok (.iload_n 0, 1) := by decide +kernel
theorem dX11_isRule_1 : decode cX11_isRule 1 = .ok (.ifCond .lt 12, 3) := by decide +kernel
theorem dX11_isRule_4 : decode cX11_isRule 4 = .ok (.iload_n 0, 1) := by decide +kernel
theorem dX11_isRule_5 : decode cX11_isRule 5 = .ok (.iconst 4, 1) := by decide +kernel
theorem dX11_isRule_6 : decode cX11_isRule 6 = .ok (.if_icmp .ge 7, 3) := by decide +kernel
theorem dX11_isRule_9 : decode cX11_isRule 9 = .ok (.iconst 1, 1) := by decide +kernel
theorem dX11_isRule_10 : decode cX11_isRule 10 = .ok (.goto 4, 3) := by decide +kernel
theorem dX11_isRule_13 : decode cX11_isRule 13 = .ok (.iconst 0, 1) := by decide +kernel
theorem dX11_isRule_14 : decode cX11_isRule 14 = .ok (.ireturn, 1) := by decide +kernel
theorem dX11_isIn_0 : decode cX11_isIn 0 = .ok (.iload_n 0, 1) := by decide +kernel
theorem dX11_isIn_1 : decode cX11_isIn 1 = .ok (.iload_n 1, 1) := by decide +kernel
theorem dX11_isIn_2 : decode cX11_isIn 2 = .ok (.ishr, 1) := by decide +kernel
theorem dX11_isIn_3 : decode cX11_isIn 3 = .ok (.iconst 1, 1) := by decide +kernel
theorem dX11_isIn_4 : decode cX11_isIn 4 = .ok (.iand, 1) := by decide +kernel
theorem dX11_isIn_5 : decode cX11_isIn 5 = .ok (.ifCond .eq 7, 3) := by decide +kernel
theorem dX11_isIn_8 : decode cX11_isIn 8 = .ok (.iconst 1, 1) := by decide +kernel
theorem dX11_isIn_9 : decode cX11_isIn 9 = .ok (.goto 4, 3) := by decide +kernel
theorem dX11_isIn_12 : decode cX11_isIn 12 = .ok (.iconst 0, 1) := by decide +kernel
theorem dX11_isIn_13 : decode cX11_isIn 13 = .ok (.ireturn, 1) := by decide +kernel
theorem dX11_letterOf_0 : decode cX11_letterOf 0 = .ok (.iload_n 0, 1) := by decide +kernel
theorem dX11_letterOf_1 : decode cX11_letterOf 1 = .ok (.istore_n 2, 1) := by decide +kernel
theorem dX11_letterOf_2 : decode cX11_letterOf 2 = .ok (.iconst 5, 1) := by decide +kernel
theorem dX11_letterOf_3 : decode cX11_letterOf 3 = .ok (.istore_n 3, 1) := by decide +kernel
theorem dX11_letterOf_4 : decode cX11_letterOf 4 = .ok (.iload_n 3, 1) := by decide +kernel
theorem dX11_letterOf_5 : decode cX11_letterOf 5 = .ok (.iload_n 1, 1) := by decide +kernel
theorem dX11_letterOf_6 : decode cX11_letterOf 6 = .ok (.if_icmp .le 14, 3) := by decide +kernel
theorem dX11_letterOf_9 : decode cX11_letterOf 9 = .ok (.iload_n 2, 1) := by decide +kernel
theorem dX11_letterOf_10 : decode cX11_letterOf 10 = .ok (.bipush 27, 2) := by decide +kernel
theorem dX11_letterOf_12 : decode cX11_letterOf 12 = .ok (.idiv, 1) := by decide +kernel
theorem dX11_letterOf_13 : decode cX11_letterOf 13 = .ok (.istore_n 2, 1) := by decide +kernel
theorem dX11_letterOf_14 : decode cX11_letterOf 14 = .ok (.iinc 3 (-1), 3) := by decide +kernel
theorem dX11_letterOf_17 : decode cX11_letterOf 17 = .ok (.goto (-13), 3) := by decide +kernel
theorem dX11_letterOf_20 : decode cX11_letterOf 20 = .ok (.iload_n 2, 1) := by decide +kernel
theorem dX11_letterOf_21 : decode cX11_letterOf 21 = .ok (.bipush 27, 2) := by decide +kernel
theorem dX11_letterOf_23 : decode cX11_letterOf 23 = .ok (.irem, 1) := by decide +kernel
theorem dX11_letterOf_24 : decode cX11_letterOf 24 = .ok (.ireturn, 1) := by decide +kernel
theorem dX12_init_0 : decode cX12_init 0 = .ok (.aload_n 0, 1) := by decide +kernel
theorem dX12_init_1 : decode cX12_init 1 = .ok (.invokespecial 1, 3) := by decide +kernel
theorem dX12_init_4 : decode cX12_init 4 = .ok (.aload_n 0, 1) := by decide +kernel
theorem dX12_init_5 : decode cX12_init 5 = .ok (.sipush 1800, 3) := by decide +kernel
theorem dX12_init_8 : decode cX12_init 8 = .ok (.newarray .int, 2) := by decide +kernel
theorem dX12_init_10 : decode cX12_init 10 = .ok (.putfield 7, 3) := by decide +kernel
theorem dX12_init_13 : decode cX12_init 13 = .ok (.aload_n 0, 1) := by decide +kernel
theorem dX12_init_14 : decode cX12_init 14 = .ok (.iconst 0, 1) := by decide +kernel
theorem dX12_init_15 : decode cX12_init 15 = .ok (.putfield 13, 3) := by decide +kernel
theorem dX12_init_18 : decode cX12_init 18 = .ok (.aload_n 0, 1) := by decide +kernel
theorem dX12_init_19 : decode cX12_init 19 = .ok (.iconst 0, 1) := by decide +kernel
theorem dX12_init_20 : decode cX12_init 20 = .ok (.putfield 17, 3) := by decide +kernel
theorem dX12_init_23 : decode cX12_init 23 = .ok (.aload_n 0, 1) := by decide +kernel
theorem dX12_init_24 : decode cX12_init 24 = .ok (.iconst 0, 1) := by decide +kernel
theorem dX12_init_25 : decode cX12_init 25 = .ok (.putfield 20, 3) := by decide +kernel
theorem dX12_init_28 : decode cX12_init 28 = .ok (.aload_n 0, 1) := by decide +kernel
theorem dX12_init_29 : decode cX12_init 29 = .ok (.iconst 0, 1) := by decide +kernel
theorem dX12_init_30 : decode cX12_init 30 = .ok (.putfield 23, 3) := by decide +kernel
theorem dX12_init_33 : decode cX12_init 33 = .ok (.aload_n 0, 1) := by decide +kernel
theorem dX12_init_34 : decode cX12_init 34 = .ok (.iconst 0, 1) := by decide +kernel
theorem dX12_init_35 : decode cX12_init 35 = .ok (.putfield 26, 3) := by decide +kernel
theorem dX12_init_38 : decode cX12_init 38 = .ok (.aload_n 0, 1) := by decide +kernel
theorem dX12_init_39 : decode cX12_init 39 = .ok (.iconst 0, 1) := by decide +kernel
theorem dX12_init_40 : decode cX12_init 40 = .ok (.putfield 29, 3) := by decide +kernel
theorem dX12_init_43 : decode cX12_init 43 = .ok (.aload_n 0, 1) := by decide +kernel
theorem dX12_init_44 : decode cX12_init 44 = .ok (.lconst 0, 1) := by decide +kernel
theorem dX12_init_45 : decode cX12_init 45 = .ok (.putfield 32, 3) := by decide +kernel
theorem dX12_init_48 : decode cX12_init 48 = .ok (.aload_n 0, 1) := by decide +kernel
theorem dX12_init_49 : decode cX12_init 49 = .ok (.iconst 0, 1) := by decide +kernel
theorem dX12_init_50 : decode cX12_init 50 = .ok (.putfield 36, 3) := by decide +kernel
theorem dX12_init_53 : decode cX12_init 53 = .ok (.aload_n 0, 1) := by decide +kernel
theorem dX12_init_54 : decode cX12_init 54 = .ok (.iconst (-1), 1) := by decide +kernel
theorem dX12_init_55 : decode cX12_init 55 = .ok (.putfield 39, 3) := by decide +kernel
theorem dX12_init_58 : decode cX12_init 58 = .ok (.aload_n 0, 1) := by decide +kernel
theorem dX12_init_59 : decode cX12_init 59 = .ok (.iconst 0, 1) := by decide +kernel
theorem dX12_init_60 : decode cX12_init 60 = .ok (.putfield 42, 3) := by decide +kernel
theorem dX12_init_63 : decode cX12_init 63 = .ok (.aload_n 0, 1) := by decide +kernel
