theorem dX12_copies_48 : decode cX12_copies 48 = .ok (.aload_n 0, 1) := by decide +kernel
theorem dX12_copies_49 : decode cX12_copies 49 = .ok (.getfield 179, 3) := by decide +kernel
theorem dX12_copies_52 : decode cX12_copies 52 = .ok (.iload_n 1, 1) := by decide +kernel
theorem dX12_copies_53 : decode cX12_copies 53 = .ok (.aload_n 0, 1) := by decide +kernel
theorem dX12_copies_54 : decode cX12_copies 54 = .ok (.getfield 179, 3) := by decide +kernel
theorem dX12_copies_57 : decode cX12_copies 57 = .ok (.iload_n 2, 1) := by decide +kernel
theorem dX12_copies_58 : decode cX12_copies 58 = .ok (.iaload, 1) := by decide +kernel
theorem dX12_copies_59 : decode cX12_copies 59 = .ok (.iastore, 1) := by decide +kernel
theorem dX12_copies_60 : decode cX12_copies 60 = .ok (.aload_n 0, 1) := by decide +kernel
theorem dX12_copies_61 : decode cX12_copies 61 = .ok (.getfield 182, 3) := by decide +kernel
theorem dX12_copies_64 : decode cX12_copies 64 = .ok (.iload_n 1, 1) := by decide +kernel
theorem dX12_copies_65 : decode cX12_copies 65 = .ok (.aload_n 0, 1) := by decide +kernel
theorem dX12_copies_66 : decode cX12_copies 66 = .ok (.getfield 182, 3) := by decide +kernel
theorem dX12_copies_69 : decode cX12_copies 69 = .ok (.iload_n 2, 1) := by decide +kernel
theorem dX12_copies_70 : decode cX12_copies 70 = .ok (.iaload, 1) := by decide +kernel
theorem dX12_copies_71 : decode cX12_copies 71 = .ok (.iastore, 1) := by decide +kernel
theorem dX12_copies_72 : decode cX12_copies 72 = .ok (.aload_n 0, 1) := by decide +kernel
theorem dX12_copies_73 : decode cX12_copies 73 = .ok (.getfield 185, 3) := by decide +kernel
theorem dX12_copies_76 : decode cX12_copies 76 = .ok (.iload_n 1, 1) := by decide +kernel
theorem dX12_copies_77 : decode cX12_copies 77 = .ok (.aload_n 0, 1) := by decide +kernel
theorem dX12_copies_78 : decode cX12_copies 78 = .ok (.getfield 185, 3) := by decide +kernel
theorem dX12_copies_81 : decode cX12_copies 81 = .ok (.iload_n 2, 1) := by decide +kernel
theorem dX12_copies_82 : decode cX12_copies 82 = .ok (.iaload, 1) := by decide +kernel
theorem dX12_copies_83 : decode cX12_copies 83 = .ok (.iastore, 1) := by decide +kernel
theorem dX12_copies_84 : decode cX12_copies 84 = .ok (.iconst 0, 1) := by decide +kernel
theorem dX12_copies_85 : decode cX12_copies 85 = .ok (.istore_n 3, 1) := by decide +kernel
theorem dX12_copies_86 : decode cX12_copies 86 = .ok (.iload_n 3, 1) := by decide +kernel
theorem dX12_copies_87 : decode cX12_copies 87 = .ok (.iconst 3, 1) := by decide +kernel
theorem dX12_copies_88 : decode cX12_copies 88 = .ok (.aload_n 0, 1) := by decide +kernel
theorem dX12_copies_89 : decode cX12_copies 89 = .ok (.getfield 185, 3) := by decide +kernel
theorem dX12_copies_92 : decode cX12_copies 92 = .ok (.iload_n 2, 1) := by decide +kernel
theorem dX12_copies_93 : decode cX12_copies 93 = .ok (.iaload, 1) := by decide +kernel
theorem dX12_copies_94 : decode cX12_copies 94 = .ok (.imul, 1) := by decide +kernel
theorem dX12_copies_95 : decode cX12_copies 95 = .ok (.if_icmp .ge 31, 3) := by decide +kernel
theorem dX12_copies_98 : decode cX12_copies 98 = .ok (.aload_n 0, 1) := by decide +kernel
theorem dX12_copies_99 : decode cX12_copies 99 = .ok (.getfield 188, 3) := by decide +kernel
theorem dX12_copies_102 : decode cX12_copies 102 = .ok (.bipush 120, 2) := by decide +kernel
theorem dX12_copies_104 : decode cX12_copies 104 = .ok (.iload_n 1, 1) := by decide +kernel
theorem dX12_copies_105 : decode cX12_copies 105 = .ok (.imul, 1) := by decide +kernel
theorem dX12_copies_106 : decode cX12_copies 106 = .ok (.iload_n 3, 1) := by decide +kernel
theorem dX12_copies_107 : decode cX12_copies 107 = .ok (.iadd, 1) := by decide +kernel
theorem dX12_copies_108 : decode cX12_copies 108 = .ok (.aload_n 0, 1) := by decide +kernel
theorem dX12_copies_109 : decode cX12_copies 109 = .ok (.getfield 188, 3) := by decide +kernel
theorem dX12_copies_112 : decode cX12_copies 112 = .ok (.bipush 120, 2) := by decide +kernel
theorem dX12_copies_114 : decode cX12_copies 114 = .ok (.iload_n 2, 1) := by decide +kernel
theorem dX12_copies_115 : decode cX12_copies 115 = .ok (.imul, 1) := by decide +kernel
theorem dX12_copies_116 : decode cX12_copies 116 = .ok (.iload_n 3, 1) := by decide +kernel
theorem dX12_copies_117 : decode cX12_copies 117 = .ok (.iadd, 1) := by decide +kernel
theorem dX12_copies_118 : decode cX12_copies 118 = .ok (.iaload, 1) := by decide +kernel
theorem dX12_copies_119 : decode cX12_copies 119 = .ok (.iastore, 1) := by decide +kernel
theorem dX12_copies_120 : decode cX12_copies 120 = .ok (.iinc 3 1, 3) := by decide +kernel
theorem dX12_copies_123 : decode cX12_copies 123 = .ok (.goto (-37), 3) := by decide +kernel
theorem dX12_copies_126 : decode cX12_copies 126 = .ok (.return_, 1) := by decide +kernel
theorem dX12_begin_0 : decode cX12_begin 0 = .ok (.aload_n 0, 1) := by decide +kernel
theorem dX12_begin_1 : decode cX12_begin 1 = .ok (.getfield 173, 3) := by decide +kernel
theorem dX12_begin_4 : decode cX12_begin 4 = .ok (.iconst 0, 1) := by decide +kernel
theorem dX12_begin_5 : decode cX12_begin 5 = .ok (.aload_n 0, 1) := by decide +kernel
theorem dX12_begin_6 : decode cX12_begin 6 = .ok (.getfield 87, 3) := by decide +kernel
theorem dX12_begin_9 : decode cX12_begin 9 = .ok (.aload_n 0, 1) := by decide +kernel
theorem dX12_begin_10 : decode cX12_begin 10 = .ok (.getfield 51, 3) := by decide +kernel
theorem dX12_begin_13 : decode cX12_begin 13 = .ok (.iaload, 1) := by decide +kernel
theorem dX12_begin_14 : decode cX12_begin 14 = .ok (.iastore, 1) := by decide +kernel
theorem dX12_begin_15 : decode cX12_begin 15 = .ok (.iconst 0, 1) := by decide +kernel
theorem dX12_begin_16 : decode cX12_begin 16 = .ok (.istore_n 1, 1) := by decide +kernel
theorem dX12_begin_17 : decode cX12_begin 17 = .ok (.iload_n 1, 1) := by decide +kernel
theorem dX12_begin_18 : decode cX12_begin 18 = .ok (.bipush 12, 2) := by decide +kernel
theorem dX12_begin_20 : decode cX12_begin 20 = .ok (.if_icmp .ge 16, 3) := by decide +kernel
theorem dX12_begin_23 : decode cX12_begin 23 = .ok (.aload_n 0, 1) := by decide +kernel
theorem dX12_begin_24 : decode cX12_begin 24 = .ok (.getfield 176, 3) := by decide +kernel
theorem dX12_begin_27 : decode cX12_begin 27 = .ok (.iload_n 1, 1) := by decide +kernel
theorem dX12_begin_28 : decode cX12_begin 28 = .ok (.iload_n 1, 1) := by decide +kernel
theorem dX12_begin_29 : decode cX12_begin 29 = .ok (.iastore, 1) := by decide +kernel
theorem dX12_begin_30 : decode cX12_begin 30 = .ok (.iinc 1 1, 3) := by decide +kernel
theorem dX12_begin_33 : decode cX12_begin 33 = .ok (.goto (-16), 3) := by decide +kernel
theorem dX12_begin_36 : decode cX12_begin 36 = .ok (.aload_n 0, 1) := by decide +kernel
theorem dX12_begin_37 : decode cX12_begin 37 = .ok (.getfield 179, 3) := by decide +kernel
theorem dX12_begin_40 : decode cX12_begin 40 = .ok (.iconst 0, 1) := by decide +kernel
theorem dX12_begin_41 : decode cX12_begin 41 = .ok (.aload_n 0, 1) := by decide +kernel
theorem dX12_begin_42 : decode cX12_begin 42 = .ok (.getfield 146, 3) := by decide +kernel
theorem dX12_begin_45 : decode cX12_begin 45 = .ok (.ifCond .eq 9, 3) := by decide +kernel
theorem dX12_begin_48 : decode cX12_begin 48 = .ok (.sipush 255, 3) := by decide +kernel
theorem dX12_begin_51 : decode cX12_begin 51 = .ok (.goto 4, 3) := by decide +kernel
theorem dX12_begin_54 : decode cX12_begin 54 = .ok (.iconst 0, 1) := by decide +kernel
theorem dX12_begin_55 : decode cX12_begin 55 = .ok (.iastore, 1) := by decide +kernel
theorem dX12_begin_56 : decode cX12_begin 56 = .ok (.aload_n 0, 1) := by decide +kernel
theorem dX12_begin_57 : decode cX12_begin 57 = .ok (.getfield 182, 3) := by decide +kernel
theorem dX12_begin_60 : decode cX12_begin 60 = .ok (.iconst 0, 1) := by decide +kernel
theorem dX12_begin_61 : decode cX12_begin 61 = .ok (.aload_n 0, 1) := by decide +kernel
theorem dX12_begin_62 : decode cX12_begin 62 = .ok (.getfield 93, 3) := by decide +kernel
theorem dX12_begin_65 : decode cX12_begin 65 = .ok (.aload_n 0, 1) := by decide +kernel
theorem dX12_begin_66 : decode cX12_begin 66 = .ok (.getfield 51, 3) := by decide +kernel
theorem dX12_begin_69 : decode cX12_begin 69 = .ok (.iaload, 1) := by decide +kernel
theorem dX12_begin_70 : decode cX12_begin 70 = .ok (.iastore, 1) := by decide +kernel
theorem dX12_begin_71 : decode cX12_begin 71 = .ok (.aload_n 0, 1) := by decide +kernel
theorem dX12_begin_72 : decode cX12_begin 72 = .ok (.getfield 185, 3) := by decide +kernel
theorem dX12_begin_75 : decode cX12_begin 75 = .ok (.iconst 0, 1) := by decide +kernel
theorem dX12_begin_76 : decode cX12_begin 76 = .ok (.iconst 0, 1) := by decide +kernel
theorem dX12_begin_77 : decode cX12_begin 77 = .ok (.iastore, 1) := by decide +kernel
theorem dX12_begin_78 : decode cX12_begin 78 = .ok (.aload_n 0, 1) := by decide +kernel
theorem dX12_begin_79 : decode cX12_begin 79 = .ok (.iconst 0, 1) := by decide +kernel
theorem dX12_begin_80 : decode cX12_begin 80 = .ok (.putfield 194, 3) := by decide +kernel
theorem dX12_begin_83 : decode cX12_begin 83 = .ok (.aload_n 0, 1) := by decide +kernel
theorem dX12_begin_84 : decode cX12_begin 84 = .ok (.iconst 0, 1) := by decide +kernel
theorem dX12_begin_85 : decode cX12_begin 85 = .ok (.putfield 291, 3) := by decide +kernel
theorem dX12_begin_88 : decode cX12_begin 88 = .ok (.return_, 1) := by decide +kernel
theorem dX12_slot_0 : decode cX12_slot 0 = .ok (.iconst 2, 1) := by decide +kernel
theorem dX12_slot_1 : decode cX12_slot 1 = .ok (.aload_n 0, 1) := by decide +kernel
theorem dX12_slot_2 : decode cX12_slot 2 = .ok (.getfield 191, 3) := by decide +kernel
theorem dX12_slot_5 : decode cX12_slot 5 = .ok (.iload_n 1, 1) := by decide +kernel
theorem dX12_slot_6 : decode cX12_slot 6 = .ok (.iadd, 1) := by decide +kernel
theorem dX12_slot_7 : decode cX12_slot 7 = .ok (.bipush 20, 2) := by decide +kernel
theorem dX12_slot_9 : decode cX12_slot 9 = .ok (.irem, 1) := by decide +kernel
theorem dX12_slot_10 : decode cX12_slot 10 = .ok (.iadd, 1) := by decide +kernel
theorem dX12_slot_11 : decode cX12_slot 11 = .ok (.ireturn, 1) := by decide +kernel
theorem dX12_keeps_0 : decode cX12_keeps 0 = .ok (.aload_n 0, 1) := by decide +kernel
theorem dX12_keeps_1 : decode cX12_keeps 1 = .ok (.getfield 194, 3) := by decide +kernel
theorem dX12_keeps_4 : decode cX12_keeps 4 = .ok (.bipush 20, 2) := by decide +kernel
theorem dX12_keeps_6 : decode cX12_keeps 6 = .ok (.if_icmp .ne 26, 3) := by decide +kernel
theorem dX12_keeps_9 : decode cX12_keeps 9 = .ok (.aload_n 0, 1) := by decide +kernel
theorem dX12_keeps_10 : decode cX12_keeps 10 = .ok (.aload_n 0, 1) := by decide +kernel
theorem dX12_keeps_11 : decode cX12_keeps 11 = .ok (.getfield 191, 3) := by decide +kernel
theorem dX12_keeps_14 : decode cX12_keeps 14 = .ok (.iconst 1, 1) := by decide +kernel
theorem dX12_keeps_15 : decode cX12_keeps 15 = .ok (.iadd, 1) := by decide +kernel
theorem dX12_keeps_16 : decode cX12_keeps 16 = .ok (.bipush 20, 2) := by decide +kernel
theorem dX12_keeps_18 : decode cX12_keeps 18 = .ok (.irem, 1) := by decide +kernel
theorem dX12_keeps_19 : decode cX12_keeps 19 = .ok (.putfield 191, 3) := by decide +kernel
theorem dX12_keeps_22 : decode cX12_keeps 22 = .ok (.aload_n 0, 1) := by decide +kernel
theorem dX12_keeps_23 : decode cX12_keeps 23 = .ok (.dup, 1) := by decide +kernel
theorem dX12_keeps_24 : decode cX12_keeps 24 = .ok (.getfield 194, 3) := by decide +kernel
theorem dX12_keeps_27 : decode cX12_keeps 27 = .ok (.iconst 1, 1) := by decide +kernel
theorem dX12_keeps_28 : decode cX12_keeps 28 = .ok (.isub, 1) := by decide +kernel
theorem dX12_keeps_29 : decode cX12_keeps 29 = .ok (.putfield 194, 3) := by decide +kernel
theorem dX12_keeps_32 : decode cX12_keeps 32 = .ok (.aload_n 0, 1) := by decide +kernel
theorem dX12_keeps_33 : decode cX12_keeps 33 = .ok (.aload_n 0, 1) := by decide +kernel
theorem dX12_keeps_34 : decode cX12_keeps 34 = .ok (.aload_n 0, 1) := by decide +kernel
theorem dX12_keeps_35 : decode cX12_keeps 35 = .ok (.getfield 194, 3) := by decide +kernel
theorem dX12_keeps_38 : decode cX12_keeps 38 = .ok (.invokevirtual 469, 3) := by decide +kernel
theorem dX12_keeps_41 : decode cX12_keeps 41 = .ok (.iconst 0, 1) := by decide +kernel
theorem dX12_keeps_42 : decode cX12_keeps 42 = .ok (.invokevirtual 472, 3) := by decide +kernel
theorem dX12_keeps_45 : decode cX12_keeps 45 = .ok (.aload_n 0, 1) := by decide +kernel
theorem dX12_keeps_46 : decode cX12_keeps 46 = .ok (.dup, 1) := by decide +kernel
theorem dX12_keeps_47 : decode cX12_keeps 47 = .ok (.getfield 194, 3) := by decide +kernel
theorem dX12_keeps_50 : decode cX12_keeps 50 = .ok (.iconst 1, 1) := by decide +kernel
theorem dX12_keeps_51 : decode cX12_keeps 51 = .ok (.iadd, 1) := by decide +kernel
theorem dX12_keeps_52 : decode cX12_keeps 52 = .ok (.putfield 194, 3) := by decide +kernel
theorem dX12_keeps_55 : decode cX12_keeps 55 = .ok (.return_, 1) := by decide +kernel
theorem dX12_undo_0 : decode cX12_undo 0 = .ok (.aload_n 0, 1) := by decide +kernel
theorem dX12_undo_1 : decode cX12_undo 1 = .ok (.getfield 194, 3) := by decide +kernel
theorem dX12_undo_4 : decode cX12_undo 4 = .ok (.ifCond .ne 17, 3) := by decide +kernel
theorem dX12_undo_7 : decode cX12_undo 7 = .ok (.aload_n 0, 1) := by decide +kernel
theorem dX12_undo_8 : decode cX12_undo 8 = .ok (.iconst 4, 1) := by decide +kernel
theorem dX12_undo_9 : decode cX12_undo 9 = .ok (.invokevirtual 312, 3) := by decide +kernel
theorem dX12_undo_12 : decode cX12_undo 12 = .ok (.ifCond .lt 7, 3) := by decide +kernel
theorem dX12_undo_15 : decode cX12_undo 15 = .ok (.iconst 1, 1) := by decide +kernel
theorem dX12_undo_16 : decode cX12_undo 16 = .ok (.goto 4, 3) := by decide +kernel
theorem dX12_undo_19 : decode cX12_undo 19 = .ok (.iconst 0, 1) := by decide +kernel
theorem dX12_undo_20 : decode cX12_undo 20 = .ok (.ireturn, 1) := by decide +kernel
theorem dX12_undo_21 : decode cX12_undo 21 = .ok (.aload_n 0, 1) := by decide +kernel
theorem dX12_undo_22 : decode cX12_undo 22 = .ok (.dup, 1) := by decide +kernel
theorem dX12_undo_23 : decode cX12_undo 23 = .ok (.getfield 194, 3) := by decide +kernel
theorem dX12_undo_26 : decode cX12_undo 26 = .ok (.iconst 1, 1) := by decide +kernel
theorem dX12_undo_27 : decode cX12_undo 27 = .ok (.isub, 1) := by decide +kernel
theorem dX12_undo_28 : decode cX12_undo 28 = .ok (.putfield 194, 3) := by decide +kernel
theorem dX12_undo_31 : decode cX12_undo 31 = .ok (.aload_n 0, 1) := by decide +kernel
theorem dX12_undo_32 : decode cX12_undo 32 = .ok (.iconst 0, 1) := by decide +kernel
theorem dX12_undo_33 : decode cX12_undo 33 = .ok (.aload_n 0, 1) := by decide +kernel
theorem dX12_undo_34 : decode cX12_undo 34 = .ok (.aload_n 0, 1) := by decide +kernel
theorem dX12_undo_35 : decode cX12_undo 35 = .ok (.getfield 194, 3) := by decide +kernel
theorem dX12_undo_38 : decode cX12_undo 38 = .ok (.invokevirtual 469, 3) := by decide +kernel
theorem dX12_undo_41 : decode cX12_undo 41 = .ok (.invokevirtual 472, 3) := by decide +kernel
theorem dX12_undo_44 : decode cX12_undo 44 = .ok (.iconst 1, 1) := by decide +kernel
theorem dX12_undo_45 : decode cX12_undo 45 = .ok (.ireturn, 1) := by decide +kernel
theorem dX12_placed_0 : decode cX12_placed 0 = .ok (.iconst 0, 1) := by decide +kernel
theorem dX12_placed_1 : decode cX12_placed 1 = .ok (.istore_n 3, 1) := by decide +kernel
theorem dX12_placed_2 : decode cX12_placed 2 = .ok (.iconst 0, 1) := by decide +kernel
theorem dX12_placed_3 : decode cX12_placed 3 = .ok (.istore 4, 2) := by decide +kernel
theorem dX12_placed_5 : decode cX12_placed 5 = .ok (.iload 4, 2) := by decide +kernel
theorem dX12_placed_7 : decode cX12_placed 7 = .ok (.aload_n 0, 1) := by decide +kernel
theorem dX12_placed_8 : decode cX12_placed 8 = .ok (.getfield 200, 3) := by decide +kernel
theorem dX12_placed_11 : decode cX12_placed 11 = .ok (.if_icmp .ge 31, 3) := by decide +kernel
theorem dX12_placed_14 : decode cX12_placed 14 = .ok (.iload_n 3, 1) := by decide +kernel
theorem dX12_placed_15 : decode cX12_placed 15 = .ok (.iload_n 2, 1) := by decide +kernel
theorem dX12_placed_16 : decode cX12_placed 16 = .ok (.aload_n 0, 1) := by decide +kernel
theorem dX12_placed_17 : decode cX12_placed 17 = .ok (.getfield 176, 3) := by decide +kernel
theorem dX12_placed_20 : decode cX12_placed 20 = .ok (.bipush 12, 2) := by decide +kernel
theorem dX12_placed_22 : decode cX12_placed 22 = .ok (.iload_n 1, 1) := by decide +kernel
theorem dX12_placed_23 : decode cX12_placed 23 = .ok (.imul, 1) := by decide +kernel
theorem dX12_placed_24 : decode cX12_placed 24 = .ok (.iload 4, 2) := by decide +kernel
theorem dX12_placed_26 : decode cX12_placed 26 = .ok (.iadd, 1) := by decide +kernel
theorem dX12_placed_27 : decode cX12_placed 27 = .ok (.iaload, 1) := by decide +kernel
theorem dX12_placed_28 : decode cX12_placed 28 = .ok (.ishr, 1) := by decide +kernel
theorem dX12_placed_29 : decode cX12_placed 29 = .ok (.iconst 1, 1) := by decide +kernel
theorem dX12_placed_30 : decode cX12_placed 30 = .ok (.iand, 1) := by decide +kernel
theorem dX12_placed_31 : decode cX12_placed 31 = .ok (.iload 4, 2) := by decide +kernel
theorem dX12_placed_33 : decode cX12_placed 33 = .ok (.ishl, 1) := by decide +kernel
theorem dX12_placed_34 : decode cX12_placed 34 = .ok (.ior, 1) := by decide +kernel
theorem dX12_placed_35 : decode cX12_placed 35 = .ok (.istore_n 3, 1) := by decide +kernel
theorem dX12_placed_36 : decode cX12_placed 36 = .ok (.iinc 4 1, 3) := by decide +kernel
theorem dX12_placed_39 : decode cX12_placed 39 = .ok (.goto (-34), 3) := by decide +kernel
theorem dX12_placed_42 : decode cX12_placed 42 = .ok (.iload_n 3, 1) := by decide +kernel
theorem dX12_placed_43 : decode cX12_placed 43 = .ok (.ireturn, 1) := by decide +kernel
theorem dX12_arranges_0 : decode cX12_arranges 0 = .ok (.aload_n 0, 1) := by decide +kernel
theorem dX12_arranges_1 : decode cX12_arranges 1 = .ok (.aload_n 0, 1) := by decide +kernel
theorem dX12_arranges_2 : decode cX12_arranges 2 = .ok (.getfield 173, 3) := by decide +kernel
theorem dX12_arranges_5 : decode cX12_arranges 5 = .ok (.iload_n 1, 1) := by decide +kernel
theorem dX12_arranges_6 : decode cX12_arranges 6 = .ok (.iaload, 1) := by decide +kernel
theorem dX12_arranges_7 : decode cX12_arranges 7 = .ok (.putfield 200, 3) := by decide +kernel
theorem dX12_arranges_10 : decode cX12_arranges 10 = .ok (.aload_n 0, 1) := by decide +kernel
theorem dX12_arranges_11 : decode cX12_arranges 11 = .ok (.iconst 0, 1) := by decide +kernel
theorem dX12_arranges_12 : decode cX12_arranges 12 = .ok (.putfield 212, 3) := by decide +kernel
theorem dX12_arranges_15 : decode cX12_arranges 15 = .ok (.iconst 0, 1) := by decide +kernel
theorem dX12_arranges_16 : decode cX12_arranges 16 = .ok (.istore_n 2, 1) := by decide +kernel
theorem dX12_arranges_17 : decode cX12_arranges 17 = .ok (.iload_n 2, 1) := by decide +kernel
theorem dX12_arranges_18 : decode cX12_arranges 18 = .ok (.aload_n 0, 1) := by decide +kernel
theorem dX12_arranges_19 : decode cX12_arranges 19 = .ok (.getfield 200, 3) := by decide +kernel
theorem dX12_arranges_22 : decode cX12_arranges 22 = .ok (.if_icmp .ge 65, 3) := by decide +kernel
theorem dX12_arranges_25 : decode cX12_arranges 25 = .ok (.aload_n 0, 1) := by decide +kernel
theorem dX12_arranges_26 : decode cX12_arranges 26 = .ok (.getfield 209, 3) := by decide +kernel
theorem dX12_arranges_29 : decode cX12_arranges 29 = .ok (.iload_n 2, 1) := by decide +kernel
theorem dX12_arranges_30 : decode cX12_arranges 30 = .ok (.aload_n 0, 1) := by decide +kernel
theorem dX12_arranges_31 : decode cX12_arranges 31 = .ok (.getfield 90, 3) := by decide +kernel
theorem dX12_arranges_34 : decode cX12_arranges 34 = .ok (.bipush 12, 2) := by decide +kernel
theorem dX12_arranges_36 : decode cX12_arranges 36 = .ok (.aload_n 0, 1) := by decide +kernel
theorem dX12_arranges_37 : decode cX12_arranges 37 = .ok (.getfield 51, 3) := by decide +kernel
theorem dX12_arranges_40 : decode cX12_arranges 40 = .ok (.imul, 1) := by decide +kernel
theorem dX12_arranges_41 : decode cX12_arranges 41 = .ok (.aload_n 0, 1) := by decide +kernel
theorem dX12_arranges_42 : decode cX12_arranges 42 = .ok (.getfield 176, 3) := by decide +kernel
theorem dX12_arranges_45 : decode cX12_arranges 45 = .ok (.bipush 12, 2) := by decide +kernel
theorem dX12_arranges_47 : decode cX12_arranges 47 = .ok (.iload_n 1, 1) := by decide +kernel
theorem dX12_arranges_48 : decode cX12_arranges 48 = .ok (.imul, 1) := by decide +kernel
theorem dX12_arranges_49 : decode cX12_arranges 49 = .ok (.iload_n 2, 1) := by decide +kernel
theorem dX12_arranges_50 : decode cX12_arranges 50 = .ok (.iadd, 1) := by decide +kernel
theorem dX12_arranges_51 : decode cX12_arranges 51 = .ok (.iaload, 1) := by decide +kernel
theorem dX12_arranges_52 : decode cX12_arranges 52 = .ok (.iadd, 1) := by decide +kernel
theorem dX12_arranges_53 : decode cX12_arranges 53 = .ok (.iaload, 1) := by decide +kernel
theorem dX12_arranges_54 : decode cX12_arranges 54 = .ok (.iastore, 1) := by decide +kernel
theorem dX12_arranges_55 : decode cX12_arranges 55 = .ok (.aload_n 0, 1) := by decide +kernel
theorem dX12_arranges_56 : decode cX12_arranges 56 = .ok (.dup, 1) := by decide +kernel
theorem dX12_arranges_57 : decode cX12_arranges 57 = .ok (.getfield 212, 3) := by decide +kernel
theorem dX12_arranges_60 : decode cX12_arranges 60 = .ok (.aload_n 0, 1) := by decide +kernel
theorem dX12_arranges_61 : decode cX12_arranges 61 = .ok (.getfield 209, 3) := by decide +kernel
theorem dX12_arranges_64 : decode cX12_arranges 64 = .ok (.iload_n 2, 1) := by decide +kernel
theorem dX12_arranges_65 : decode cX12_arranges 65 = .ok (.iaload, 1) := by decide +kernel
theorem dX12_arranges_66 : decode cX12_arranges 66 = .ok (.iconst (-1), 1) := by decide +kernel
theorem dX12_arranges_67 : decode cX12_arranges 67 = .ok (.if_icmp .ne 9, 3) := by decide +kernel
theorem dX12_arranges_70 : decode cX12_arranges 70 = .ok (.iconst 1, 1) := by decide +kernel
theorem dX12_arranges_71 : decode cX12_arranges 71 = .ok (.iload_n 2, 1) := by decide +kernel
theorem dX12_arranges_72 : decode cX12_arranges 72 = .ok (.ishl, 1) := by decide +kernel
theorem dX12_arranges_73 : decode cX12_arranges 73 = .ok (.goto 4, 3) := by decide +kernel
theorem dX12_arranges_76 : decode cX12_arranges 76 = .ok (.iconst 0, 1) := by decide +kernel
theorem dX12_arranges_77 : decode cX12_arranges 77 = .ok (.ior, 1) := by decide +kernel
theorem dX12_arranges_78 : decode cX12_arranges 78 = .ok (.putfield 212, 3) := by decide +kernel
theorem dX12_arranges_81 : decode cX12_arranges 81 = .ok (.iinc 2 1, 3) := by decide +kernel
theorem dX12_arranges_84 : decode cX12_arranges 84 = .ok (.goto (-67), 3) := by decide +kernel
theorem dX12_arranges_87 : decode cX12_arranges 87 = .ok (.iconst 0, 1) := by decide +kernel
theorem dX12_arranges_88 : decode cX12_arranges 88 = .ok (.istore_n 2, 1) := by decide +kernel
theorem dX12_arranges_89 : decode cX12_arranges 89 = .ok (.iload_n 2, 1) := by decide +kernel
theorem dX12_arranges_90 : decode cX12_arranges 90 = .ok (.aload_n 0, 1) := by decide +kernel
theorem dX12_arranges_91 : decode cX12_arranges 91 = .ok (.invokevirtual 459, 3) := by decide +kernel
theorem dX12_arranges_94 : decode cX12_arranges 94 = .ok (.if_icmp .ge 91, 3) := by decide +kernel
theorem dX12_arranges_97 : decode cX12_arranges 97 = .ok (.aload_n 0, 1) := by decide +kernel
theorem dX12_arranges_98 : decode cX12_arranges 98 = .ok (.getfield 206, 3) := by decide +kernel
theorem dX12_arranges_101 : decode cX12_arranges 101 = .ok (.iload_n 2, 1) := by decide +kernel
theorem dX12_arranges_102 : decode cX12_arranges 102 = .ok (.iconst 1, 1) := by decide +kernel
theorem dX12_arranges_103 : decode cX12_arranges 103 = .ok (.aload_n 0, 1) := by decide +kernel
theorem dX12_arranges_104 : decode cX12_arranges 104 = .ok (.getfield 200, 3) := by decide +kernel
theorem dX12_arranges_107 : decode cX12_arranges 107 = .ok (.ishl, 1) := by decide +kernel
theorem dX12_arranges_108 : decode cX12_arranges 108 = .ok (.iconst 1, 1) := by decide +kernel
theorem dX12_arranges_109 : decode cX12_arranges 109 = .ok (.isub, 1) := by decide +kernel
theorem dX12_arranges_110 : decode cX12_arranges 110 = .ok (.iastore, 1) := by decide +kernel
theorem dX12_arranges_111 : decode cX12_arranges 111 = .ok (.iconst 0, 1) := by decide +kernel
theorem dX12_arranges_112 : decode cX12_arranges 112 = .ok (.istore_n 3, 1) := by decide +kernel
theorem dX12_arranges_113 : decode cX12_arranges 113 = .ok (.iload_n 3, 1) := by decide +kernel
theorem dX12_arranges_114 : decode cX12_arranges 114 = .ok (.aload_n 0, 1) := by decide +kernel
theorem dX12_arranges_115 : decode cX12_arranges 115 = .ok (.getfield 164, 3) := by decide +kernel
theorem dX12_arranges_118 : decode cX12_arranges 118 = .ok (.iload_n 2, 1) := by decide +kernel
theorem dX12_arranges_119 : decode cX12_arranges 119 = .ok (.iaload, 1) := by decide +kernel
theorem dX12_arranges_120 : decode cX12_arranges 120 = .ok (.if_icmp .ge 59, 3) := by decide +kernel
theorem dX12_arranges_123 : decode cX12_arranges 123 = .ok (.aload_n 0, 1) := by decide +kernel
theorem dX12_arranges_124 : decode cX12_arranges 124 = .ok (.getfield 203, 3) := by decide +kernel
theorem dX12_arranges_127 : decode cX12_arranges 127 = .ok (.sipush 2010, 3) := by decide +kernel
theorem dX12_arranges_130 : decode cX12_arranges 130 = .ok (.iload_n 2, 1) := by decide +kernel
theorem dX12_arranges_131 : decode cX12_arranges 131 = .ok (.imul, 1) := by decide +kernel
theorem dX12_arranges_132 : decode cX12_arranges 132 = .ok (.iload_n 3, 1) := by decide +kernel
theorem dX12_arranges_133 : decode cX12_arranges 133 = .ok (.iadd, 1) := by decide +kernel
theorem dX12_arranges_134 : decode cX12_arranges 134 = .ok (.aload_n 0, 1) := by decide +kernel
theorem dX12_arranges_135 : decode cX12_arranges 135 = .ok (.iload_n 1, 1) := by decide +kernel
theorem dX12_arranges_136 : decode cX12_arranges 136 = .ok (.aload_n 0, 1) := by decide +kernel
theorem dX12_arranges_137 : decode cX12_arranges 137 = .ok (.getfield 161, 3) := by decide +kernel
theorem dX12_arranges_140 : decode cX12_arranges 140 = .ok (.sipush 2010, 3) := by decide +kernel
theorem dX12_arranges_143 : decode cX12_arranges 143 = .ok (.iload_n 2, 1) := by decide +kernel
theorem dX12_arranges_144 : decode cX12_arranges 144 = .ok (.imul, 1) := by decide +kernel
theorem dX12_arranges_145 : decode cX12_arranges 145 = .ok (.iload_n 3, 1) := by decide +kernel
theorem dX12_arranges_146 : decode cX12_arranges 146 = .ok (.iadd, 1) := by decide +kernel
theorem dX12_arranges_147 : decode cX12_arranges 147 = .ok (.iaload, 1) := by decide +kernel
theorem dX12_arranges_148 : decode cX12_arranges 148 = .ok (.invokevirtual 475, 3) := by decide +kernel
theorem dX12_arranges_151 : decode cX12_arranges 151 = .ok (.iastore, 1) := by decide +kernel
theorem dX12_arranges_152 : decode cX12_arranges 152 = .ok (.aload_n 0, 1) := by decide +kernel
theorem dX12_arranges_153 : decode cX12_arranges 153 = .ok (.getfield 206, 3) := by decide +kernel
theorem dX12_arranges_156 : decode cX12_arranges 156 = .ok (.iload_n 2, 1) := by decide +kernel
theorem dX12_arranges_157 : decode cX12_arranges 157 = .ok (.dup2, 1) := by decide +kernel
theorem dX12_arranges_158 : decode cX12_arranges 158 = .ok (.iaload, 1) := by decide +kernel
theorem dX12_arranges_159 : decode cX12_arranges 159 = .ok (.aload_n 0, 1) := by decide +kernel
theorem dX12_arranges_160 : decode cX12_arranges 160 = .ok (.getfield 203, 3) := by decide +kernel
theorem dX12_arranges_163 : decode cX12_arranges 163 = .ok (.sipush 2010, 3) := by decide +kernel
theorem dX12_arranges_166 : decode cX12_arranges 166 = .ok (.iload_n 2, 1) := by decide +kernel
theorem dX12_arranges_167 : decode cX12_arranges 167 = .ok (.imul, 1) := by decide +kernel
theorem dX12_arranges_168 : decode cX12_arranges 168 = .ok (.iload_n 3, 1) := by decide +kernel
theorem dX12_arranges_169 : decode cX12_arranges 169 = .ok (.iadd, 1) := by decide +kernel
theorem dX12_arranges_170 : decode cX12_arranges 170 = .ok (.iaload, 1) := by decide +kernel
theorem dX12_arranges_171 : decode cX12_arranges 171 = .ok (.iand, 1) := by decide +kernel
theorem dX12_arranges_172 : decode cX12_arranges 172 = .ok (.iastore, 1) := by decide +kernel
theorem dX12_arranges_173 : decode cX12_arranges 173 = .ok (.iinc 3 1, 3) := by decide +kernel
theorem dX12_arranges_176 : decode cX12_arranges 176 = .ok (.goto (-63), 3) := by decide +kernel
theorem dX12_arranges_179 : decode cX12_arranges 179 = .ok (.iinc 2 1, 3) := by decide +kernel
theorem dX12_arranges_182 : decode cX12_arranges 182 = .ok (.goto (-93), 3) := by decide +kernel
theorem dX12_arranges_185 : decode cX12_arranges 185 = .ok (.aload_n 0, 1) := by decide +kernel
theorem dX12_arranges_186 : decode cX12_arranges 186 = .ok (.dup, 1) := by decide +kernel
theorem dX12_arranges_187 : decode cX12_arranges 187 = .ok (.getfield 236, 3) := by decide +kernel
theorem dX12_arranges_190 : decode cX12_arranges 190 = .ok (.iconst 1, 1) := by decide +kernel
theorem dX12_arranges_191 : decode cX12_arranges 191 = .ok (.iadd, 1) := by decide +kernel
theorem dX12_arranges_192 : decode cX12_arranges 192 = .ok (.putfield 236, 3) := by decide +kernel
theorem dX12_arranges_195 : decode cX12_arranges 195 = .ok (.return_, 1) := by decide +kernel
theorem dX12_openBy_0 : decode cX12_openBy 0 = .ok (.aload_n 0, 1) := by decide +kernel
theorem dX12_openBy_1 : decode cX12_openBy 1 = .ok (.getfield 212, 3) := by decide +kernel
theorem dX12_openBy_4 : decode cX12_openBy 4 = .ok (.istore_n 2, 1) := by decide +kernel
theorem dX12_openBy_5 : decode cX12_openBy 5 = .ok (.iconst 0, 1) := by decide +kernel
theorem dX12_openBy_6 : decode cX12_openBy 6 = .ok (.istore_n 3, 1) := by decide +kernel
theorem dX12_openBy_7 : decode cX12_openBy 7 = .ok (.iload_n 3, 1) := by decide +kernel
theorem dX12_openBy_8 : decode cX12_openBy 8 = .ok (.aload_n 0, 1) := by decide +kernel
theorem dX12_openBy_9 : decode cX12_openBy 9 = .ok (.getfield 200, 3) := by decide +kernel
theorem dX12_openBy_12 : decode cX12_openBy 12 = .ok (.if_icmp .ge 43, 3) := by decide +kernel
theorem dX12_openBy_15 : decode cX12_openBy 15 = .ok (.iload_n 2, 1) := by decide +kernel
theorem dX12_openBy_16 : decode cX12_openBy 16 = .ok (.aload_n 0, 1) := by decide +kernel
theorem dX12_openBy_17 : decode cX12_openBy 17 = .ok (.getfield 209, 3) := by decide +kernel
theorem dX12_openBy_20 : decode cX12_openBy 20 = .ok (.iload_n 3, 1) := by decide +kernel
theorem dX12_openBy_21 : decode cX12_openBy 21 = .ok (.iaload, 1) := by decide +kernel
theorem dX12_openBy_22 : decode cX12_openBy 22 = .ok (.iconst (-1), 1) := by decide +kernel
theorem dX12_openBy_23 : decode cX12_openBy 23 = .ok (.if_icmp .eq 23, 3) := by decide +kernel
theorem dX12_openBy_26 : decode cX12_openBy 26 = .ok (.iload_n 1, 1) := by decide +kernel
theorem dX12_openBy_27 : decode cX12_openBy 27 = .ok (.aload_n 0, 1) := by decide +kernel
theorem dX12_openBy_28 : decode cX12_openBy 28 = .ok (.getfield 209, 3) := by decide +kernel
theorem dX12_openBy_31 : decode cX12_openBy 31 = .ok (.iload_n 3, 1) := by decide +kernel
theorem dX12_openBy_32 : decode cX12_openBy 32 = .ok (.iaload, 1) := by decide +kernel
theorem dX12_openBy_33 : decode cX12_openBy 33 = .ok (.ishr, 1) := by decide +kernel
theorem dX12_openBy_34 : decode cX12_openBy 34 = .ok (.iconst 1, 1) := by decide +kernel
theorem dX12_openBy_35 : decode cX12_openBy 35 = .ok (.iand, 1) := by decide +kernel
theorem dX12_openBy_36 : decode cX12_openBy 36 = .ok (.iconst 1, 1) := by decide +kernel
theorem dX12_openBy_37 : decode cX12_openBy 37 = .ok (.if_icmp .ne 9, 3) := by decide +kernel
theorem dX12_openBy_40 : decode cX12_openBy 40 = .ok (.iconst 1, 1) := by decide +kernel
theorem dX12_openBy_41 : decode cX12_openBy 41 = .ok (.iload_n 3, 1) := by decide +kernel
theorem dX12_openBy_42 : decode cX12_openBy 42 = .ok (.ishl, 1) := by decide +kernel
theorem dX12_openBy_43 : decode cX12_openBy 43 = .ok (.goto 4, 3) := by decide +kernel
theorem dX12_openBy_46 : decode cX12_openBy 46 = .ok (.iconst 0, 1) := by decide +kernel
theorem dX12_openBy_47 : decode cX12_openBy 47 = .ok (.ior, 1) := by decide +kernel
theorem dX12_openBy_48 : decode cX12_openBy 48 = .ok (.istore_n 2, 1) := by decide +kernel
theorem dX12_openBy_49 : decode cX12_openBy 49 = .ok (.iinc 3 1, 3) := by decide +kernel
theorem dX12_openBy_52 : decode cX12_openBy 52 = .ok (.goto (-45), 3) := by decide +kernel
theorem dX12_openBy_55 : decode cX12_openBy 55 = .ok (.iload_n 2, 1) := by decide +kernel
theorem dX12_openBy_56 : decode cX12_openBy 56 = .ok (.ireturn, 1) := by decide +kernel
theorem dX12_lowest_0 : decode cX12_lowest 0 = .ok (.iload_n 0, 1) := by decide +kernel
theorem dX12_lowest_1 : decode cX12_lowest 1 = .ok (.ifCond .ne 5, 3) := by decide +kernel
theorem dX12_lowest_4 : decode cX12_lowest 4 = .ok (.iconst (-1), 1) := by decide +kernel
theorem dX12_lowest_5 : decode cX12_lowest 5 = .ok (.ireturn, 1) := by decide +kernel
theorem dX12_lowest_6 : decode cX12_lowest 6 = .ok (.iconst 0, 1) := by decide +kernel
theorem dX12_lowest_7 : decode cX12_lowest 7 = .ok (.istore_n 1, 1) := by decide +kernel
theorem dX12_lowest_8 : decode cX12_lowest 8 = .ok (.iload_n 0, 1) := by decide +kernel
theorem dX12_lowest_9 : decode cX12_lowest 9 = .ok (.iload_n 1, 1) := by decide +kernel
theorem dX12_lowest_10 : decode cX12_lowest 10 = .ok (.ishr, 1) := by decide +kernel
theorem dX12_lowest_11 : decode cX12_lowest 11 = .ok (.iconst 1, 1) := by decide +kernel
theorem dX12_lowest_12 : decode cX12_lowest 12 = .ok (.iand, 1) := by decide +kernel
theorem dX12_lowest_13 : decode cX12_lowest 13 = .ok (.ifCond .ne 9, 3) := by decide +kernel
theorem dX12_lowest_16 : decode cX12_lowest 16 = .ok (.iinc 1 1, 3) := by decide +kernel
theorem dX12_lowest_19 : decode cX12_lowest 19 = .ok (.goto (-11), 3) := by decide +kernel
theorem dX12_lowest_22 : decode cX12_lowest 22 = .ok (.iload_n 1, 1) := by decide +kernel
theorem dX12_lowest_23 : decode cX12_lowest 23 = .ok (.ireturn, 1) := by decide +kernel
theorem dX12_bitsOf_0 : decode cX12_bitsOf 0 = .ok (.iconst 0, 1) := by decide +kernel
theorem dX12_bitsOf_1 : decode cX12_bitsOf 1 = .ok (.istore_n 1, 1) := by decide +kernel
theorem dX12_bitsOf_2 : decode cX12_bitsOf 2 = .ok (.iload_n 0, 1) := by decide +kernel
theorem dX12_bitsOf_3 : decode cX12_bitsOf 3 = .ok (.istore_n 2, 1) := by decide +kernel
theorem dX12_bitsOf_4 : decode cX12_bitsOf 4 = .ok (.iload_n 2, 1) := by decide +kernel
theorem dX12_bitsOf_5 : decode cX12_bitsOf 5 = .ok (.ifCond .le 16, 3) := by decide +kernel
theorem dX12_bitsOf_8 : decode cX12_bitsOf 8 = .ok (.iload_n 1, 1) := by decide +kernel
theorem dX12_bitsOf_9 : decode cX12_bitsOf 9 = .ok (.iload_n 2, 1) := by decide +kernel
theorem dX12_bitsOf_10 : decode cX12_bitsOf 10 = .ok (.iconst 1, 1) := by decide +kernel
theorem dX12_bitsOf_11 : decode cX12_bitsOf 11 = .ok (.iand, 1) := by decide +kernel
theorem dX12_bitsOf_12 : decode cX12_bitsOf 12 = .ok (.iadd, 1) := by decide +kernel
theorem dX12_bitsOf_13 : decode cX12_bitsOf 13 = .ok (.istore_n 1, 1) := by decide +kernel
theorem dX12_bitsOf_14 : decode cX12_bitsOf 14 = .ok (.iload_n 2, 1) := by decide +kernel
theorem dX12_bitsOf_15 : decode cX12_bitsOf 15 = .ok (.iconst 1, 1) := by decide +kernel
theorem dX12_bitsOf_16 : decode cX12_bitsOf 16 = .ok (.ishr, 1) := by decide +kernel
theorem dX12_bitsOf_17 : decode cX12_bitsOf 17 = .ok (.istore_n 2, 1) := by decide +kernel
theorem dX12_bitsOf_18 : decode cX12_bitsOf 18 = .ok (.goto (-14), 3) := by decide +kernel
theorem dX12_bitsOf_21 : decode cX12_bitsOf 21 = .ok (.iload_n 1, 1) := by decide +kernel
theorem dX12_bitsOf_22 : decode cX12_bitsOf 22 = .ok (.ireturn, 1) := by decide +kernel
theorem dX12_valuesIn_0 : decode cX12_valuesIn 0 = .ok (.iload_n 1, 1) := by decide +kernel
theorem dX12_valuesIn_1 : decode cX12_valuesIn 1 = .ok (.istore_n 2, 1) := by decide +kernel
theorem dX12_valuesIn_2 : decode cX12_valuesIn 2 = .ok (.aload_n 0, 1) := by decide +kernel
theorem dX12_valuesIn_3 : decode cX12_valuesIn 3 = .ok (.invokevirtual 459, 3) := by decide +kernel
theorem dX12_valuesIn_6 : decode cX12_valuesIn 6 = .ok (.iconst 1, 1) := by decide +kernel
theorem dX12_valuesIn_7 : decode cX12_valuesIn 7 = .ok (.isub, 1) := by decide +kernel
theorem dX12_valuesIn_8 : decode cX12_valuesIn 8 = .ok (.istore_n 3, 1) := by decide +kernel
theorem dX12_valuesIn_9 : decode cX12_valuesIn 9 = .ok (.iload_n 3, 1) := by decide +kernel
theorem dX12_valuesIn_10 : decode cX12_valuesIn 10 = .ok (.ifCond .lt 30, 3) := by decide +kernel
theorem dX12_valuesIn_13 : decode cX12_valuesIn 13 = .ok (.aload_n 0, 1) := by decide +kernel
theorem dX12_valuesIn_14 : decode cX12_valuesIn 14 = .ok (.getfield 215, 3) := by decide +kernel
theorem dX12_valuesIn_17 : decode cX12_valuesIn 17 = .ok (.iload_n 3, 1) := by decide +kernel
theorem dX12_valuesIn_18 : decode cX12_valuesIn 18 = .ok (.iload_n 2, 1) := by decide +kernel
theorem dX12_valuesIn_19 : decode cX12_valuesIn 19 = .ok (.aload_n 0, 1) := by decide +kernel
theorem dX12_valuesIn_20 : decode cX12_valuesIn 20 = .ok (.iload_n 3, 1) := by decide +kernel
theorem dX12_valuesIn_21 : decode cX12_valuesIn 21 = .ok (.invokevirtual 463, 3) := by decide +kernel
theorem dX12_valuesIn_24 : decode cX12_valuesIn 24 = .ok (.irem, 1) := by decide +kernel
theorem dX12_valuesIn_25 : decode cX12_valuesIn 25 = .ok (.iastore, 1) := by decide +kernel
theorem dX12_valuesIn_26 : decode cX12_valuesIn 26 = .ok (.iload_n 2, 1) := by decide +kernel
theorem dX12_valuesIn_27 : decode cX12_valuesIn 27 = .ok (.aload_n 0, 1) := by decide +kernel
theorem dX12_valuesIn_28 : decode cX12_valuesIn 28 = .ok (.iload_n 3, 1) := by decide +kernel
theorem dX12_valuesIn_29 : decode cX12_valuesIn 29 = .ok (.invokevirtual 463, 3) := by decide +kernel
theorem dX12_valuesIn_32 : decode cX12_valuesIn 32 = .ok (.idiv, 1) := by decide +kernel
theorem dX12_valuesIn_33 : decode cX12_valuesIn 33 = .ok (.istore_n 2, 1) := by decide +kernel
theorem dX12_valuesIn_34 : decode cX12_valuesIn 34 = .ok (.iinc 3 (-1), 3) := by decide +kernel
theorem dX12_valuesIn_37 : decode cX12_valuesIn 37 = .ok (.goto (-28), 3) := by decide +kernel
theorem dX12_valuesIn_40 : decode cX12_valuesIn 40 = .ok (.return_, 1) := by decide +kernel
theorem dX12_setIn_0 : decode cX12_setIn 0 = .ok (.aload_n 0, 1) := by decide +kernel
theorem dX12_setIn_1 : decode cX12_setIn 1 = .ok (.getfield 203, 3) := by decide +kernel
theorem dX12_setIn_4 : decode cX12_setIn 4 = .ok (.sipush 2010, 3) := by decide +kernel
theorem dX12_setIn_7 : decode cX12_setIn 7 = .ok (.iload_n 1, 1) := by decide +kernel
theorem dX12_setIn_8 : decode cX12_setIn 8 = .ok (.imul, 1) := by decide +kernel
theorem dX12_setIn_9 : decode cX12_setIn 9 = .ok (.aload_n 0, 1) := by decide +kernel
theorem dX12_setIn_10 : decode cX12_setIn 10 = .ok (.getfield 158, 3) := by decide +kernel
theorem dX12_setIn_13 : decode cX12_setIn 13 = .ok (.sipush 2010, 3) := by decide +kernel
