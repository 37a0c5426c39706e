theorem dX3_lays_38 : decode cX3_lays 38 = .ok (.iload 4, 2) := by decide +kernel
theorem dX3_lays_40 : decode cX3_lays 40 = .ok (.bipush 12, 2) := by decide +kernel
theorem dX3_lays_42 : decode cX3_lays 42 = .ok (.if_icmp .ge 73, 3) := by decide +kernel
theorem dX3_lays_45 : decode cX3_lays 45 = .ok (.iload 4, 2) := by decide +kernel
theorem dX3_lays_47 : decode cX3_lays 47 = .ok (.aload_n 2, 1) := by decide +kernel
theorem dX3_lays_48 : decode cX3_lays 48 = .ok (.getfield 181, 3) := by decide +kernel
theorem dX3_lays_51 : decode cX3_lays 51 = .ok (.if_icmp .ge 64, 3) := by decide +kernel
theorem dX3_lays_54 : decode cX3_lays 54 = .ok (.aload_n 2, 1) := by decide +kernel
theorem dX3_lays_55 : decode cX3_lays 55 = .ok (.getfield 187, 3) := by decide +kernel
theorem dX3_lays_58 : decode cX3_lays 58 = .ok (.iload 4, 2) := by decide +kernel
theorem dX3_lays_60 : decode cX3_lays 60 = .ok (.laload, 1) := by decide +kernel
theorem dX3_lays_61 : decode cX3_lays 61 = .ok (.lstore 5, 2) := by decide +kernel
theorem dX3_lays_63 : decode cX3_lays 63 = .ok (.lload 5, 2) := by decide +kernel
theorem dX3_lays_65 : decode cX3_lays 65 = .ok (.lconst 0, 1) := by decide +kernel
theorem dX3_lays_66 : decode cX3_lays 66 = .ok (.lcmp, 1) := by decide +kernel
theorem dX3_lays_67 : decode cX3_lays 67 = .ok (.ifCond .lt 42, 3) := by decide +kernel
theorem dX3_lays_70 : decode cX3_lays 70 = .ok (.lload 5, 2) := by decide +kernel
theorem dX3_lays_72 : decode cX3_lays 72 = .ok (.ldc2_w 207, 3) := by decide +kernel
theorem dX3_lays_75 : decode cX3_lays 75 = .ok (.lcmp, 1) := by decide +kernel
theorem dX3_lays_76 : decode cX3_lays 76 = .ok (.ifCond .gt 33, 3) := by decide +kernel
theorem dX3_lays_79 : decode cX3_lays 79 = .ok (.aload_n 0, 1) := by decide +kernel
theorem dX3_lays_80 : decode cX3_lays 80 = .ok (.getfield 10, 3) := by decide +kernel
theorem dX3_lays_83 : decode cX3_lays 83 = .ok (.iload 4, 2) := by decide +kernel
theorem dX3_lays_85 : decode cX3_lays 85 = .ok (.lload 5, 2) := by decide +kernel
theorem dX3_lays_87 : decode cX3_lays 87 = .ok (.l2i, 1) := by decide +kernel
theorem dX3_lays_88 : decode cX3_lays 88 = .ok (.invokevirtual 56, 3) := by decide +kernel
theorem dX3_lays_91 : decode cX3_lays 91 = .ok (.ifCond .eq 18, 3) := by decide +kernel
theorem dX3_lays_94 : decode cX3_lays 94 = .ok (.aload_n 0, 1) := by decide +kernel
theorem dX3_lays_95 : decode cX3_lays 95 = .ok (.getfield 10, 3) := by decide +kernel
theorem dX3_lays_98 : decode cX3_lays 98 = .ok (.iload 4, 2) := by decide +kernel
theorem dX3_lays_100 : decode cX3_lays 100 = .ok (.lload 5, 2) := by decide +kernel
theorem dX3_lays_102 : decode cX3_lays 102 = .ok (.l2i, 1) := by decide +kernel
theorem dX3_lays_103 : decode cX3_lays 103 = .ok (.invokevirtual 60, 3) := by decide +kernel
theorem dX3_lays_106 : decode cX3_lays 106 = .ok (.iinc 3 1, 3) := by decide +kernel
theorem dX3_lays_109 : decode cX3_lays 109 = .ok (.iinc 4 1, 3) := by decide +kernel
theorem dX3_lays_112 : decode cX3_lays 112 = .ok (.goto (-74), 3) := by decide +kernel
theorem dX3_lays_115 : decode cX3_lays 115 = .ok (.iload_n 3, 1) := by decide +kernel
theorem dX3_lays_116 : decode cX3_lays 116 = .ok (.ireturn, 1) := by decide +kernel
theorem dX3_book_0 : decode cX3_book 0 = .ok (.iload_n 1, 1) := by decide +kernel
theorem dX3_book_1 : decode cX3_book 1 = .ok (.invokestatic 172, 3) := by decide +kernel
theorem dX3_book_4 : decode cX3_book 4 = .ok (.ifCond .ne 9, 3) := by decide +kernel
theorem dX3_book_7 : decode cX3_book 7 = .ok (.aload_n 0, 1) := by decide +kernel
theorem dX3_book_8 : decode cX3_book 8 = .ok (.iconst 0, 1) := by decide +kernel
theorem dX3_book_9 : decode cX3_book 9 = .ok (.invokevirtual 47, 3) := by decide +kernel
theorem dX3_book_12 : decode cX3_book 12 = .ok (.ireturn, 1) := by decide +kernel
theorem dX3_book_13 : decode cX3_book 13 = .ok (.aload_n 0, 1) := by decide +kernel
theorem dX3_book_14 : decode cX3_book 14 = .ok (.getfield 31, 3) := by decide +kernel
theorem dX3_book_17 : decode cX3_book 17 = .ok (.iload_n 1, 1) := by decide +kernel
theorem dX3_book_18 : decode cX3_book 18 = .ok (.aaload, 1) := by decide +kernel
theorem dX3_book_19 : decode cX3_book 19 = .ok (.astore_n 3, 1) := by decide +kernel
theorem dX3_book_20 : decode cX3_book 20 = .ok (.aload_n 3, 1) := by decide +kernel
theorem dX3_book_21 : decode cX3_book 21 = .ok (.invokevirtual 184, 3) := by decide +kernel
theorem dX3_book_24 : decode cX3_book 24 = .ok (.ifCond .eq 9, 3) := by decide +kernel
theorem dX3_book_27 : decode cX3_book 27 = .ok (.aload_n 0, 1) := by decide +kernel
theorem dX3_book_28 : decode cX3_book 28 = .ok (.iconst 5, 1) := by decide +kernel
theorem dX3_book_29 : decode cX3_book 29 = .ok (.invokevirtual 47, 3) := by decide +kernel
theorem dX3_book_32 : decode cX3_book 32 = .ok (.ireturn, 1) := by decide +kernel
theorem dX3_book_33 : decode cX3_book 33 = .ok (.iload_n 2, 1) := by decide +kernel
theorem dX3_book_34 : decode cX3_book 34 = .ok (.invokestatic 40, 3) := by decide +kernel
theorem dX3_book_37 : decode cX3_book 37 = .ok (.ifCond .ne 9, 3) := by decide +kernel
theorem dX3_book_40 : decode cX3_book 40 = .ok (.aload_n 0, 1) := by decide +kernel
theorem dX3_book_41 : decode cX3_book 41 = .ok (.iconst 0, 1) := by decide +kernel
theorem dX3_book_42 : decode cX3_book 42 = .ok (.invokevirtual 47, 3) := by decide +kernel
theorem dX3_book_45 : decode cX3_book 45 = .ok (.ireturn, 1) := by decide +kernel
theorem dX3_book_46 : decode cX3_book 46 = .ok (.aload_n 0, 1) := by decide +kernel
theorem dX3_book_47 : decode cX3_book 47 = .ok (.invokevirtual 145, 3) := by decide +kernel
theorem dX3_book_50 : decode cX3_book 50 = .ok (.iconst 0, 1) := by decide +kernel
theorem dX3_book_51 : decode cX3_book 51 = .ok (.istore 4, 2) := by decide +kernel
theorem dX3_book_53 : decode cX3_book 53 = .ok (.iload 4, 2) := by decide +kernel
theorem dX3_book_55 : decode cX3_book 55 = .ok (.aload_n 3, 1) := by decide +kernel
theorem dX3_book_56 : decode cX3_book 56 = .ok (.getfield 181, 3) := by decide +kernel
theorem dX3_book_59 : decode cX3_book 59 = .ok (.if_icmp .ge 32, 3) := by decide +kernel
theorem dX3_book_62 : decode cX3_book 62 = .ok (.aload_n 3, 1) := by decide +kernel
theorem dX3_book_63 : decode cX3_book 63 = .ok (.iload 4, 2) := by decide +kernel
theorem dX3_book_65 : decode cX3_book 65 = .ok (.aload_n 0, 1) := by decide +kernel
theorem dX3_book_66 : decode cX3_book 66 = .ok (.getfield 19, 3) := by decide +kernel
theorem dX3_book_69 : decode cX3_book 69 = .ok (.iload_n 2, 1) := by decide +kernel
theorem dX3_book_70 : decode cX3_book 70 = .ok (.invokevirtual 64, 3) := by decide +kernel
theorem dX3_book_73 : decode cX3_book 73 = .ok (.i2l, 1) := by decide +kernel
theorem dX3_book_74 : decode cX3_book 74 = .ok (.invokevirtual 191, 3) := by decide +kernel
theorem dX3_book_77 : decode cX3_book 77 = .ok (.aload_n 0, 1) := by decide +kernel
theorem dX3_book_78 : decode cX3_book 78 = .ok (.getfield 19, 3) := by decide +kernel
theorem dX3_book_81 : decode cX3_book 81 = .ok (.iconst 1, 1) := by decide +kernel
theorem dX3_book_82 : decode cX3_book 82 = .ok (.invokevirtual 125, 3) := by decide +kernel
theorem dX3_book_85 : decode cX3_book 85 = .ok (.iinc 4 1, 3) := by decide +kernel
theorem dX3_book_88 : decode cX3_book 88 = .ok (.goto (-35), 3) := by decide +kernel
theorem dX3_book_91 : decode cX3_book 91 = .ok (.aload_n 3, 1) := by decide +kernel
theorem dX3_book_92 : decode cX3_book 92 = .ok (.getfield 181, 3) := by decide +kernel
theorem dX3_book_95 : decode cX3_book 95 = .ok (.ireturn, 1) := by decide +kernel
theorem dX3_read_0 : decode cX3_read 0 = .ok (.iload_n 1, 1) := by decide +kernel
theorem dX3_read_1 : decode cX3_read 1 = .ok (.invokestatic 172, 3) := by decide +kernel
theorem dX3_read_4 : decode cX3_read 4 = .ok (.ifCond .ne 9, 3) := by decide +kernel
theorem dX3_read_7 : decode cX3_read 7 = .ok (.aload_n 0, 1) := by decide +kernel
theorem dX3_read_8 : decode cX3_read 8 = .ok (.iconst 0, 1) := by decide +kernel
theorem dX3_read_9 : decode cX3_read 9 = .ok (.invokevirtual 47, 3) := by decide +kernel
theorem dX3_read_12 : decode cX3_read 12 = .ok (.ireturn, 1) := by decide +kernel
theorem dX3_read_13 : decode cX3_read 13 = .ok (.aload_n 0, 1) := by decide +kernel
theorem dX3_read_14 : decode cX3_read 14 = .ok (.getfield 31, 3) := by decide +kernel
theorem dX3_read_17 : decode cX3_read 17 = .ok (.iload_n 1, 1) := by decide +kernel
theorem dX3_read_18 : decode cX3_read 18 = .ok (.aaload, 1) := by decide +kernel
theorem dX3_read_19 : decode cX3_read 19 = .ok (.astore 4, 2) := by decide +kernel
theorem dX3_read_21 : decode cX3_read 21 = .ok (.aload 4, 2) := by decide +kernel
theorem dX3_read_23 : decode cX3_read 23 = .ok (.invokevirtual 184, 3) := by decide +kernel
theorem dX3_read_26 : decode cX3_read 26 = .ok (.ifCond .eq 9, 3) := by decide +kernel
theorem dX3_read_29 : decode cX3_read 29 = .ok (.aload_n 0, 1) := by decide +kernel
theorem dX3_read_30 : decode cX3_read 30 = .ok (.iconst 5, 1) := by decide +kernel
theorem dX3_read_31 : decode cX3_read 31 = .ok (.invokevirtual 47, 3) := by decide +kernel
theorem dX3_read_34 : decode cX3_read 34 = .ok (.ireturn, 1) := by decide +kernel
theorem dX3_read_35 : decode cX3_read 35 = .ok (.iload_n 2, 1) := by decide +kernel
theorem dX3_read_36 : decode cX3_read 36 = .ok (.invokestatic 40, 3) := by decide +kernel
theorem dX3_read_39 : decode cX3_read 39 = .ok (.ifCond .eq 11, 3) := by decide +kernel
theorem dX3_read_42 : decode cX3_read 42 = .ok (.aload_n 0, 1) := by decide +kernel
theorem dX3_read_43 : decode cX3_read 43 = .ok (.iload_n 3, 1) := by decide +kernel
theorem dX3_read_44 : decode cX3_read 44 = .ok (.invokevirtual 86, 3) := by decide +kernel
theorem dX3_read_47 : decode cX3_read 47 = .ok (.ifCond .ne 9, 3) := by decide +kernel
theorem dX3_read_50 : decode cX3_read 50 = .ok (.aload_n 0, 1) := by decide +kernel
theorem dX3_read_51 : decode cX3_read 51 = .ok (.iconst 0, 1) := by decide +kernel
theorem dX3_read_52 : decode cX3_read 52 = .ok (.invokevirtual 47, 3) := by decide +kernel
theorem dX3_read_55 : decode cX3_read 55 = .ok (.ireturn, 1) := by decide +kernel
theorem dX3_read_56 : decode cX3_read 56 = .ok (.iconst 0, 1) := by decide +kernel
theorem dX3_read_57 : decode cX3_read 57 = .ok (.istore 5, 2) := by decide +kernel
theorem dX3_read_59 : decode cX3_read 59 = .ok (.iconst 0, 1) := by decide +kernel
theorem dX3_read_60 : decode cX3_read 60 = .ok (.istore 6, 2) := by decide +kernel
theorem dX3_read_62 : decode cX3_read 62 = .ok (.iload 6, 2) := by decide +kernel
theorem dX3_read_64 : decode cX3_read 64 = .ok (.bipush 6, 2) := by decide +kernel
theorem dX3_read_66 : decode cX3_read 66 = .ok (.if_icmp .ge 64, 3) := by decide +kernel
theorem dX3_read_69 : decode cX3_read 69 = .ok (.iconst 0, 1) := by decide +kernel
theorem dX3_read_70 : decode cX3_read 70 = .ok (.istore 7, 2) := by decide +kernel
theorem dX3_read_72 : decode cX3_read 72 = .ok (.iload 7, 2) := by decide +kernel
theorem dX3_read_74 : decode cX3_read 74 = .ok (.bipush 12, 2) := by decide +kernel
theorem dX3_read_76 : decode cX3_read 76 = .ok (.if_icmp .ge 48, 3) := by decide +kernel
theorem dX3_read_79 : decode cX3_read 79 = .ok (.aload_n 0, 1) := by decide +kernel
theorem dX3_read_80 : decode cX3_read 80 = .ok (.invokevirtual 145, 3) := by decide +kernel
theorem dX3_read_83 : decode cX3_read 83 = .ok (.aload_n 0, 1) := by decide +kernel
theorem dX3_read_84 : decode cX3_read 84 = .ok (.getfield 19, 3) := by decide +kernel
theorem dX3_read_87 : decode cX3_read 87 = .ok (.getfield 89, 3) := by decide +kernel
theorem dX3_read_90 : decode cX3_read 90 = .ok (.iload_n 3, 1) := by decide +kernel
theorem dX3_read_91 : decode cX3_read 91 = .ok (.iload 6, 2) := by decide +kernel
theorem dX3_read_93 : decode cX3_read 93 = .ok (.iastore, 1) := by decide +kernel
theorem dX3_read_94 : decode cX3_read 94 = .ok (.aload_n 0, 1) := by decide +kernel
theorem dX3_read_95 : decode cX3_read 95 = .ok (.getfield 19, 3) := by decide +kernel
theorem dX3_read_98 : decode cX3_read 98 = .ok (.getfield 92, 3) := by decide +kernel
theorem dX3_read_101 : decode cX3_read 101 = .ok (.iload_n 3, 1) := by decide +kernel
theorem dX3_read_102 : decode cX3_read 102 = .ok (.iload 7, 2) := by decide +kernel
theorem dX3_read_104 : decode cX3_read 104 = .ok (.iastore, 1) := by decide +kernel
theorem dX3_read_105 : decode cX3_read 105 = .ok (.aload_n 0, 1) := by decide +kernel
theorem dX3_read_106 : decode cX3_read 106 = .ok (.aload 4, 2) := by decide +kernel
theorem dX3_read_108 : decode cX3_read 108 = .ok (.iload_n 2, 1) := by decide +kernel
theorem dX3_read_109 : decode cX3_read 109 = .ok (.invokevirtual 209, 3) := by decide +kernel
theorem dX3_read_112 : decode cX3_read 112 = .ok (.ifCond .eq 6, 3) := by decide +kernel
theorem dX3_read_115 : decode cX3_read 115 = .ok (.iinc 5 1, 3) := by decide +kernel
theorem dX3_read_118 : decode cX3_read 118 = .ok (.iinc 7 1, 3) := by decide +kernel
theorem dX3_read_121 : decode cX3_read 121 = .ok (.goto (-49), 3) := by decide +kernel
theorem dX3_read_124 : decode cX3_read 124 = .ok (.iinc 6 1, 3) := by decide +kernel
theorem dX3_read_127 : decode cX3_read 127 = .ok (.goto (-65), 3) := by decide +kernel
theorem dX3_read_130 : decode cX3_read 130 = .ok (.iload 5, 2) := by decide +kernel
theorem dX3_read_132 : decode cX3_read 132 = .ok (.ireturn, 1) := by decide +kernel
theorem dX3_image_0 : decode cX3_image 0 = .ok (.aload_n 0, 1) := by decide +kernel
theorem dX3_image_1 : decode cX3_image 1 = .ok (.getfield 16, 3) := by decide +kernel
theorem dX3_image_4 : decode cX3_image 4 = .ok (.aload_n 0, 1) := by decide +kernel
theorem dX3_image_5 : decode cX3_image 5 = .ok (.getfield 10, 3) := by decide +kernel
theorem dX3_image_8 : decode cX3_image 8 = .ok (.invokevirtual 168, 3) := by decide +kernel
theorem dX3_image_11 : decode cX3_image 11 = .ok (.aload_n 0, 1) := by decide +kernel
theorem dX3_image_12 : decode cX3_image 12 = .ok (.iconst 1, 1) := by decide +kernel
theorem dX3_image_13 : decode cX3_image 13 = .ok (.putfield 213, 3) := by decide +kernel
theorem dX3_image_16 : decode cX3_image 16 = .ok (.iconst 1, 1) := by decide +kernel
theorem dX3_image_17 : decode cX3_image 17 = .ok (.ireturn, 1) := by decide +kernel
theorem dX3_undo_0 : decode cX3_undo 0 = .ok (.aload_n 0, 1) := by decide +kernel
theorem dX3_undo_1 : decode cX3_undo 1 = .ok (.getfield 213, 3) := by decide +kernel
theorem dX3_undo_4 : decode cX3_undo 4 = .ok (.ifCond .ne 9, 3) := by decide +kernel
theorem dX3_undo_7 : decode cX3_undo 7 = .ok (.aload_n 0, 1) := by decide +kernel
theorem dX3_undo_8 : decode cX3_undo 8 = .ok (.iconst 3, 1) := by decide +kernel
theorem dX3_undo_9 : decode cX3_undo 9 = .ok (.invokevirtual 47, 3) := by decide +kernel
theorem dX3_undo_12 : decode cX3_undo 12 = .ok (.ireturn, 1) := by decide +kernel
theorem dX3_undo_13 : decode cX3_undo 13 = .ok (.aload_n 0, 1) := by decide +kernel
theorem dX3_undo_14 : decode cX3_undo 14 = .ok (.getfield 10, 3) := by decide +kernel
theorem dX3_undo_17 : decode cX3_undo 17 = .ok (.aload_n 0, 1) := by decide +kernel
theorem dX3_undo_18 : decode cX3_undo 18 = .ok (.getfield 16, 3) := by decide +kernel
theorem dX3_undo_21 : decode cX3_undo 21 = .ok (.invokevirtual 168, 3) := by decide +kernel
theorem dX3_undo_24 : decode cX3_undo 24 = .ok (.aload_n 0, 1) := by decide +kernel
theorem dX3_undo_25 : decode cX3_undo 25 = .ok (.getfield 10, 3) := by decide +kernel
theorem dX3_undo_28 : decode cX3_undo 28 = .ok (.getfield 148, 3) := by decide +kernel
theorem dX3_undo_31 : decode cX3_undo 31 = .ok (.ireturn, 1) := by decide +kernel
theorem dX3_tear_0 : decode cX3_tear 0 = .ok (.aload_n 0, 1) := by decide +kernel
theorem dX3_tear_1 : decode cX3_tear 1 = .ok (.getfield 213, 3) := by decide +kernel
theorem dX3_tear_4 : decode cX3_tear 4 = .ok (.ifCond .eq 7, 3) := by decide +kernel
theorem dX3_tear_7 : decode cX3_tear 7 = .ok (.iconst 1, 1) := by decide +kernel
theorem dX3_tear_8 : decode cX3_tear 8 = .ok (.goto 4, 3) := by decide +kernel
theorem dX3_tear_11 : decode cX3_tear 11 = .ok (.iconst 0, 1) := by decide +kernel
theorem dX3_tear_12 : decode cX3_tear 12 = .ok (.istore_n 1, 1) := by decide +kernel
theorem dX3_tear_13 : decode cX3_tear 13 = .ok (.aload_n 0, 1) := by decide +kernel
theorem dX3_tear_14 : decode cX3_tear 14 = .ok (.iconst 0, 1) := by decide +kernel
theorem dX3_tear_15 : decode cX3_tear 15 = .ok (.putfield 213, 3) := by decide +kernel
theorem dX3_tear_18 : decode cX3_tear 18 = .ok (.iload_n 1, 1) := by decide +kernel
theorem dX3_tear_19 : decode cX3_tear 19 = .ok (.ireturn, 1) := by decide +kernel
theorem dX3_count_0 : decode cX3_count 0 = .ok (.iload_n 1, 1) := by decide +kernel
theorem dX3_count_1 : decode cX3_count 1 = .ok (.tableswitch 69 0 3 #[31, 39, 47, 55], 31) := by decide +kernel
theorem dX3_count_32 : decode cX3_count 32 = .ok (.aload_n 0, 1) := by decide +kernel
theorem dX3_count_33 : decode cX3_count 33 = .ok (.getfield 10, 3) := by decide +kernel
theorem dX3_count_36 : decode cX3_count 36 = .ok (.getfield 148, 3) := by decide +kernel
theorem dX3_count_39 : decode cX3_count 39 = .ok (.ireturn, 1) := by decide +kernel
theorem dX3_count_40 : decode cX3_count 40 = .ok (.aload_n 0, 1) := by decide +kernel
theorem dX3_count_41 : decode cX3_count 41 = .ok (.getfield 25, 3) := by decide +kernel
theorem dX3_count_44 : decode cX3_count 44 = .ok (.getfield 157, 3) := by decide +kernel
theorem dX3_count_47 : decode cX3_count 47 = .ok (.ireturn, 1) := by decide +kernel
theorem dX3_count_48 : decode cX3_count 48 = .ok (.aload_n 0, 1) := by decide +kernel
theorem dX3_count_49 : decode cX3_count 49 = .ok (.getfield 10, 3) := by decide +kernel
theorem dX3_count_52 : decode cX3_count 52 = .ok (.invokevirtual 217, 3) := by decide +kernel
theorem dX3_count_55 : decode cX3_count 55 = .ok (.ireturn, 1) := by decide +kernel
theorem dX3_count_56 : decode cX3_count 56 = .ok (.bipush 12, 2) := by decide +kernel
theorem dX3_count_58 : decode cX3_count 58 = .ok (.aload_n 0, 1) := by decide +kernel
theorem dX3_count_59 : decode cX3_count 59 = .ok (.getfield 10, 3) := by decide +kernel
theorem dX3_count_62 : decode cX3_count 62 = .ok (.invokevirtual 136, 3) := by decide +kernel
theorem dX3_count_65 : decode cX3_count 65 = .ok (.invokestatic 220, 3) := by decide +kernel
theorem dX3_count_68 : decode cX3_count 68 = .ok (.isub, 1) := by decide +kernel
theorem dX3_count_69 : decode cX3_count 69 = .ok (.ireturn, 1) := by decide +kernel
theorem dX3_count_70 : decode cX3_count 70 = .ok (.aload_n 0, 1) := by decide +kernel
theorem dX3_count_71 : decode cX3_count 71 = .ok (.iconst 0, 1) := by decide +kernel
theorem dX3_count_72 : decode cX3_count 72 = .ok (.invokevirtual 47, 3) := by decide +kernel
theorem dX3_count_75 : decode cX3_count 75 = .ok (.ireturn, 1) := by decide +kernel
theorem dX3_status_0 : decode cX3_status 0 = .ok (.iload_n 1, 1) := by decide +kernel
theorem dX3_status_1 : decode cX3_status 1 = .ok (.iconst (-1), 1) := by decide +kernel
theorem dX3_status_2 : decode cX3_status 2 = .ok (.bipush 6, 2) := by decide +kernel
theorem dX3_status_4 : decode cX3_status 4 = .ok (.invokestatic 52, 3) := by decide +kernel
theorem dX3_status_7 : decode cX3_status 7 = .ok (.ifCond .ne 9, 3) := by decide +kernel
theorem dX3_status_10 : decode cX3_status 10 = .ok (.aload_n 0, 1) := by decide +kernel
theorem dX3_status_11 : decode cX3_status 11 = .ok (.iconst 0, 1) := by decide +kernel
theorem dX3_status_12 : decode cX3_status 12 = .ok (.invokevirtual 47, 3) := by decide +kernel
theorem dX3_status_15 : decode cX3_status 15 = .ok (.ireturn, 1) := by decide +kernel
theorem dX3_status_16 : decode cX3_status 16 = .ok (.iload_n 1, 1) := by decide +kernel
theorem dX3_status_17 : decode cX3_status 17 = .ok (.ifCond .lt 10, 3) := by decide +kernel
theorem dX3_status_20 : decode cX3_status 20 = .ok (.aload_n 0, 1) := by decide +kernel
theorem dX3_status_21 : decode cX3_status 21 = .ok (.getfield 35, 3) := by decide +kernel
theorem dX3_status_24 : decode cX3_status 24 = .ok (.iload_n 1, 1) := by decide +kernel
theorem dX3_status_25 : decode cX3_status 25 = .ok (.iaload, 1) := by decide +kernel
theorem dX3_status_26 : decode cX3_status 26 = .ok (.ireturn, 1) := by decide +kernel
theorem dX3_status_27 : decode cX3_status 27 = .ok (.iconst 0, 1) := by decide +kernel
theorem dX3_status_28 : decode cX3_status 28 = .ok (.istore_n 2, 1) := by decide +kernel
theorem dX3_status_29 : decode cX3_status 29 = .ok (.iconst 0, 1) := by decide +kernel
theorem dX3_status_30 : decode cX3_status 30 = .ok (.istore_n 3, 1) := by decide +kernel
theorem dX3_status_31 : decode cX3_status 31 = .ok (.iload_n 3, 1) := by decide +kernel
theorem dX3_status_32 : decode cX3_status 32 = .ok (.bipush 7, 2) := by decide +kernel
theorem dX3_status_34 : decode cX3_status 34 = .ok (.if_icmp .ge 18, 3) := by decide +kernel
theorem dX3_status_37 : decode cX3_status 37 = .ok (.iload_n 2, 1) := by decide +kernel
theorem dX3_status_38 : decode cX3_status 38 = .ok (.aload_n 0, 1) := by decide +kernel
theorem dX3_status_39 : decode cX3_status 39 = .ok (.getfield 35, 3) := by decide +kernel
theorem dX3_status_42 : decode cX3_status 42 = .ok (.iload_n 3, 1) := by decide +kernel
theorem dX3_status_43 : decode cX3_status 43 = .ok (.iaload, 1) := by decide +kernel
theorem dX3_status_44 : decode cX3_status 44 = .ok (.iadd, 1) := by decide +kernel
theorem dX3_status_45 : decode cX3_status 45 = .ok (.istore_n 2, 1) := by decide +kernel
theorem dX3_status_46 : decode cX3_status 46 = .ok (.iinc 3 1, 3) := by decide +kernel
theorem dX3_status_49 : decode cX3_status 49 = .ok (.goto (-18), 3) := by decide +kernel
theorem dX3_status_52 : decode cX3_status 52 = .ok (.iload_n 2, 1) := by decide +kernel
theorem dX3_status_53 : decode cX3_status 53 = .ok (.ireturn, 1) := by decide +kernel
theorem dX3_finding_0 : decode cX3_finding 0 = .ok (.aload_n 0, 1) := by decide +kernel
theorem dX3_finding_1 : decode cX3_finding 1 = .ok (.getfield 35, 3) := by decide +kernel
theorem dX3_finding_4 : decode cX3_finding 4 = .ok (.iload_n 1, 1) := by decide +kernel
theorem dX3_finding_5 : decode cX3_finding 5 = .ok (.dup2, 1) := by decide +kernel
theorem dX3_finding_6 : decode cX3_finding 6 = .ok (.iaload, 1) := by decide +kernel
theorem dX3_finding_7 : decode cX3_finding 7 = .ok (.iconst 1, 1) := by decide +kernel
theorem dX3_finding_8 : decode cX3_finding 8 = .ok (.iadd, 1) := by decide +kernel
theorem dX3_finding_9 : decode cX3_finding 9 = .ok (.iastore, 1) := by decide +kernel
theorem dX3_finding_10 : decode cX3_finding 10 = .ok (.ldc 225, 2) := by decide +kernel
theorem dX3_finding_12 : decode cX3_finding 12 = .ok (.iload_n 1, 1) := by decide +kernel
theorem dX3_finding_13 : decode cX3_finding 13 = .ok (.isub, 1) := by decide +kernel
theorem dX3_finding_14 : decode cX3_finding 14 = .ok (.ireturn, 1) := by decide +kernel
theorem dX3_startTrial_0 : decode cX3_startTrial 0 = .ok (.aload_n 0, 1) := by decide +kernel
theorem dX3_startTrial_1 : decode cX3_startTrial 1 = .ok (.getfield 19, 3) := by decide +kernel
theorem dX3_startTrial_4 : decode cX3_startTrial 4 = .ok (.aload_n 0, 1) := by decide +kernel
theorem dX3_startTrial_5 : decode cX3_startTrial 5 = .ok (.getfield 10, 3) := by decide +kernel
theorem dX3_startTrial_8 : decode cX3_startTrial 8 = .ok (.invokevirtual 168, 3) := by decide +kernel
theorem dX3_startTrial_11 : decode cX3_startTrial 11 = .ok (.return_, 1) := by decide +kernel
theorem dX3_replace_0 : decode cX3_replace 0 = .ok (.iload_n 3, 1) := by decide +kernel
theorem dX3_replace_1 : decode cX3_replace 1 = .ok (.iconst 0, 1) := by decide +kernel
theorem dX3_replace_2 : decode cX3_replace 2 = .ok (.iload 4, 2) := by decide +kernel
theorem dX3_replace_4 : decode cX3_replace 4 = .ok (.invokestatic 52, 3) := by decide +kernel
theorem dX3_replace_7 : decode cX3_replace 7 = .ok (.ifCond .ne 9, 3) := by decide +kernel
theorem dX3_replace_10 : decode cX3_replace 10 = .ok (.aload_n 0, 1) := by decide +kernel
theorem dX3_replace_11 : decode cX3_replace 11 = .ok (.iconst 0, 1) := by decide +kernel
theorem dX3_replace_12 : decode cX3_replace 12 = .ok (.invokevirtual 47, 3) := by decide +kernel
theorem dX3_replace_15 : decode cX3_replace 15 = .ok (.ireturn, 1) := by decide +kernel
theorem dX3_replace_16 : decode cX3_replace 16 = .ok (.aload_n 1, 1) := by decide +kernel
theorem dX3_replace_17 : decode cX3_replace 17 = .ok (.iload_n 2, 1) := by decide +kernel
theorem dX3_replace_18 : decode cX3_replace 18 = .ok (.iaload, 1) := by decide +kernel
theorem dX3_replace_19 : decode cX3_replace 19 = .ok (.istore 5, 2) := by decide +kernel
theorem dX3_replace_21 : decode cX3_replace 21 = .ok (.aload_n 1, 1) := by decide +kernel
theorem dX3_replace_22 : decode cX3_replace 22 = .ok (.iload_n 2, 1) := by decide +kernel
theorem dX3_replace_23 : decode cX3_replace 23 = .ok (.iload_n 3, 1) := by decide +kernel
theorem dX3_replace_24 : decode cX3_replace 24 = .ok (.iastore, 1) := by decide +kernel
theorem dX3_replace_25 : decode cX3_replace 25 = .ok (.iload 5, 2) := by decide +kernel
theorem dX3_replace_27 : decode cX3_replace 27 = .ok (.ireturn, 1) := by decide +kernel
theorem dX3_tastesAsWritten_0 : decode cX3_tastesAsWritten 0 = .ok (.iconst 0, 1) := by decide +kernel
theorem dX3_tastesAsWritten_1 : decode cX3_tastesAsWritten 1 = .ok (.istore_n 3, 1) := by decide +kernel
theorem dX3_tastesAsWritten_2 : decode cX3_tastesAsWritten 2 = .ok (.iload_n 3, 1) := by decide +kernel
theorem dX3_tastesAsWritten_3 : decode cX3_tastesAsWritten 3 = .ok (.aload_n 1, 1) := by decide +kernel
theorem dX3_tastesAsWritten_4 : decode cX3_tastesAsWritten 4 = .ok (.getfield 181, 3) := by decide +kernel
theorem dX3_tastesAsWritten_7 : decode cX3_tastesAsWritten 7 = .ok (.if_icmp .ge 38, 3) := by decide +kernel
theorem dX3_tastesAsWritten_10 : decode cX3_tastesAsWritten 10 = .ok (.aload_n 0, 1) := by decide +kernel
theorem dX3_tastesAsWritten_11 : decode cX3_tastesAsWritten 11 = .ok (.getfield 19, 3) := by decide +kernel
theorem dX3_tastesAsWritten_14 : decode cX3_tastesAsWritten 14 = .ok (.iload_n 2, 1) := by decide +kernel
theorem dX3_tastesAsWritten_15 : decode cX3_tastesAsWritten 15 = .ok (.invokevirtual 64, 3) := by decide +kernel
theorem dX3_tastesAsWritten_18 : decode cX3_tastesAsWritten 18 = .ok (.i2l, 1) := by decide +kernel
theorem dX3_tastesAsWritten_19 : decode cX3_tastesAsWritten 19 = .ok (.aload_n 1, 1) := by decide +kernel
theorem dX3_tastesAsWritten_20 : decode cX3_tastesAsWritten 20 = .ok (.getfield 187, 3) := by decide +kernel
theorem dX3_tastesAsWritten_23 : decode cX3_tastesAsWritten 23 = .ok (.iload_n 3, 1) := by decide +kernel
theorem dX3_tastesAsWritten_24 : decode cX3_tastesAsWritten 24 = .ok (.laload, 1) := by decide +kernel
theorem dX3_tastesAsWritten_25 : decode cX3_tastesAsWritten 25 = .ok (.lcmp, 1) := by decide +kernel
theorem dX3_tastesAsWritten_26 : decode cX3_tastesAsWritten 26 = .ok (.ifCond .eq 5, 3) := by decide +kernel
theorem dX3_tastesAsWritten_29 : decode cX3_tastesAsWritten 29 = .ok (.iconst 0, 1) := by decide +kernel
theorem dX3_tastesAsWritten_30 : decode cX3_tastesAsWritten 30 = .ok (.ireturn, 1) := by decide +kernel
theorem dX3_tastesAsWritten_31 : decode cX3_tastesAsWritten 31 = .ok (.aload_n 0, 1) := by decide +kernel
theorem dX3_tastesAsWritten_32 : decode cX3_tastesAsWritten 32 = .ok (.getfield 19, 3) := by decide +kernel
theorem dX3_tastesAsWritten_35 : decode cX3_tastesAsWritten 35 = .ok (.iconst 1, 1) := by decide +kernel
theorem dX3_tastesAsWritten_36 : decode cX3_tastesAsWritten 36 = .ok (.invokevirtual 125, 3) := by decide +kernel
theorem dX3_tastesAsWritten_39 : decode cX3_tastesAsWritten 39 = .ok (.iinc 3 1, 3) := by decide +kernel
theorem dX3_tastesAsWritten_42 : decode cX3_tastesAsWritten 42 = .ok (.goto (-40), 3) := by decide +kernel
theorem dX3_tastesAsWritten_45 : decode cX3_tastesAsWritten 45 = .ok (.iconst 1, 1) := by decide +kernel
theorem dX3_tastesAsWritten_46 : decode cX3_tastesAsWritten 46 = .ok (.ireturn, 1) := by decide +kernel
theorem dX3_isCook_0 : decode cX3_isCook 0 = .ok (.iload_n 1, 1) := by decide +kernel
theorem dX3_isCook_1 : decode cX3_isCook 1 = .ok (.iconst 0, 1) := by decide +kernel
theorem dX3_isCook_2 : decode cX3_isCook 2 = .ok (.aload_n 0, 1) := by decide +kernel
theorem dX3_isCook_3 : decode cX3_isCook 3 = .ok (.getfield 10, 3) := by decide +kernel
theorem dX3_isCook_6 : decode cX3_isCook 6 = .ok (.getfield 148, 3) := by decide +kernel
theorem dX3_isCook_9 : decode cX3_isCook 9 = .ok (.iconst 1, 1) := by decide +kernel
theorem dX3_isCook_10 : decode cX3_isCook 10 = .ok (.isub, 1) := by decide +kernel
theorem dX3_isCook_11 : decode cX3_isCook 11 = .ok (.invokestatic 52, 3) := by decide +kernel
theorem dX3_isCook_14 : decode cX3_isCook 14 = .ok (.ireturn, 1) := by decide +kernel
theorem dX3_isPart_0 : decode cX3_isPart 0 = .ok (.iload_n 0, 1) := by decide +kernel
theorem dX3_isPart_1 : decode cX3_isPart 1 = .ok (.iconst 0, 1) := by decide +kernel
theorem dX3_isPart_2 : decode cX3_isPart 2 = .ok (.bipush 11, 2) := by decide +kernel
theorem dX3_isPart_4 : decode cX3_isPart 4 = .ok (.invokestatic 52, 3) := by decide +kernel
theorem dX3_isPart_7 : decode cX3_isPart 7 = .ok (.ireturn, 1) := by decide +kernel
theorem dX3_isKind_0 : decode cX3_isKind 0 = .ok (.iload_n 0, 1) := by decide +kernel
theorem dX3_isKind_1 : decode cX3_isKind 1 = .ok (.iconst 0, 1) := by decide +kernel
theorem dX3_isKind_2 : decode cX3_isKind 2 = .ok (.iconst 5, 1) := by decide +kernel
theorem dX3_isKind_3 : decode cX3_isKind 3 = .ok (.invokestatic 52, 3) := by decide +kernel
theorem dX3_isKind_6 : decode cX3_isKind 6 = .ok (.ireturn, 1) := by decide +kernel
theorem dX3_isSheet_0 : decode cX3_isSheet 0 = .ok (.iload_n 0, 1) := by decide +kernel
theorem dX3_isSheet_1 : decode cX3_isSheet 1 = .ok (.iconst 0, 1) := by decide +kernel
theorem dX3_isSheet_2 : decode cX3_isSheet 2 = .ok (.iconst 3, 1) := by decide +kernel
theorem dX3_isSheet_3 : decode cX3_isSheet 3 = .ok (.invokestatic 52, 3) := by decide +kernel
theorem dX3_isSheet_6 : decode cX3_isSheet 6 = .ok (.ireturn, 1) := by decide +kernel
theorem dX3_isWidth_0 : decode cX3_isWidth 0 = .ok (.iload_n 0, 1) := by decide +kernel
theorem dX3_isWidth_1 : decode cX3_isWidth 1 = .ok (.ifCond .eq 21, 3) := by decide +kernel
theorem dX3_isWidth_4 : decode cX3_isWidth 4 = .ok (.iload_n 0, 1) := by decide +kernel
theorem dX3_isWidth_5 : decode cX3_isWidth 5 = .ok (.bipush 8, 2) := by decide +kernel
theorem dX3_isWidth_7 : decode cX3_isWidth 7 = .ok (.if_icmp .eq 15, 3) := by decide +kernel
theorem dX3_isWidth_10 : decode cX3_isWidth 10 = .ok (.iload_n 0, 1) := by decide +kernel
theorem dX3_isWidth_11 : decode cX3_isWidth 11 = .ok (.bipush 16, 2) := by decide +kernel
theorem dX3_isWidth_13 : decode cX3_isWidth 13 = .ok (.if_icmp .eq 9, 3) := by decide +kernel
theorem dX3_isWidth_16 : decode cX3_isWidth 16 = .ok (.iload_n 0, 1) := by decide +kernel
theorem dX3_isWidth_17 : decode cX3_isWidth 17 = .ok (.bipush 64, 2) := by decide +kernel
theorem dX3_isWidth_19 : decode cX3_isWidth 19 = .ok (.if_icmp .ne 7, 3) := by decide +kernel
theorem dX3_isWidth_22 : decode cX3_isWidth 22 = .ok (.iconst 1, 1) := by decide +kernel
theorem dX3_isWidth_23 : decode cX3_isWidth 23 = .ok (.goto 4, 3) := by decide +kernel
theorem dX3_isWidth_26 : decode cX3_isWidth 26 = .ok (.iconst 0, 1) := by decide +kernel
theorem dX3_isWidth_27 : decode cX3_isWidth 27 = .ok (.ireturn, 1) := by decide +kernel
theorem dX3_isWithin_0 : decode cX3_isWithin 0 = .ok (.iload_n 1, 1) := by decide +kernel
theorem dX3_isWithin_1 : decode cX3_isWithin 1 = .ok (.iload_n 0, 1) := by decide +kernel
theorem dX3_isWithin_2 : decode cX3_isWithin 2 = .ok (.if_icmp .gt 12, 3) := by decide +kernel
theorem dX3_isWithin_5 : decode cX3_isWithin 5 = .ok (.iload_n 0, 1) := by decide +kernel
theorem dX3_isWithin_6 : decode cX3_isWithin 6 = .ok (.iload_n 2, 1) := by decide +kernel
theorem dX3_isWithin_7 : decode cX3_isWithin 7 = .ok (.if_icmp .gt 7, 3) := by decide +kernel
theorem dX3_isWithin_10 : decode cX3_isWithin 10 = .ok (.iconst 1, 1) := by decide +kernel
theorem dX3_isWithin_11 : decode cX3_isWithin 11 = .ok (.goto 4, 3) := by decide +kernel
theorem dX3_isWithin_14 : decode cX3_isWithin 14 = .ok (.iconst 0, 1) := by decide +kernel
theorem dX3_isWithin_15 : decode cX3_isWithin 15 = .ok (.ireturn, 1) := by decide +kernel
theorem dX3_isUnder_0 : decode cX3_isUnder 0 = .ok (.iload_n 0, 1) := by decide +kernel
theorem dX3_isUnder_1 : decode cX3_isUnder 1 = .ok (.iload_n 1, 1) := by decide +kernel
theorem dX3_isUnder_2 : decode cX3_isUnder 2 = .ok (.if_icmp .eq 27, 3) := by decide +kernel
theorem dX3_isUnder_5 : decode cX3_isUnder 5 = .ok (.iload_n 1, 1) := by decide +kernel
theorem dX3_isUnder_6 : decode cX3_isUnder 6 = .ok (.ifCond .eq 23, 3) := by decide +kernel
theorem dX3_isUnder_9 : decode cX3_isUnder 9 = .ok (.iload_n 0, 1) := by decide +kernel
theorem dX3_isUnder_10 : decode cX3_isUnder 10 = .ok (.iconst 4, 1) := by decide +kernel
theorem dX3_isUnder_11 : decode cX3_isUnder 11 = .ok (.if_icmp .ne 8, 3) := by decide +kernel
theorem dX3_isUnder_14 : decode cX3_isUnder 14 = .ok (.iload_n 1, 1) := by decide +kernel
theorem dX3_isUnder_15 : decode cX3_isUnder 15 = .ok (.iconst 1, 1) := by decide +kernel
theorem dX3_isUnder_16 : decode cX3_isUnder 16 = .ok (.if_icmp .eq 13, 3) := by decide +kernel
theorem dX3_isUnder_19 : decode cX3_isUnder 19 = .ok (.iload_n 0, 1) := by decide +kernel
theorem dX3_isUnder_20 : decode cX3_isUnder 20 = .ok (.iconst 5, 1) := by decide +kernel
theorem dX3_isUnder_21 : decode cX3_isUnder 21 = .ok (.if_icmp .ne 12, 3) := by decide +kernel
theorem dX3_isUnder_24 : decode cX3_isUnder 24 = .ok (.iload_n 1, 1) := by decide +kernel
theorem dX3_isUnder_25 : decode cX3_isUnder 25 = .ok (.iconst 2, 1) := by decide +kernel
theorem dX3_isUnder_26 : decode cX3_isUnder 26 = .ok (.if_icmp .ne 7, 3) := by decide +kernel
theorem dX3_isUnder_29 : decode cX3_isUnder 29 = .ok (.iconst 1, 1) := by decide +kernel
theorem dX3_isUnder_30 : decode cX3_isUnder 30 = .ok (.goto 4, 3) := by decide +kernel
theorem dX3_isUnder_33 : decode cX3_isUnder 33 = .ok (.iconst 0, 1) := by decide +kernel
theorem dX3_isUnder_34 : decode cX3_isUnder 34 = .ok (.ireturn, 1) := by decide +kernel
theorem dX4_init_0 : decode cX4_init 0 = .ok (.aload_n 0, 1) := by decide +kernel
theorem dX4_init_1 : decode cX4_init 1 = .ok (.invokespecial 1, 3) := by decide +kernel
theorem dX4_init_4 : decode cX4_init 4 = .ok (.aload_n 0, 1) := by decide +kernel
theorem dX4_init_5 : decode cX4_init 5 = .ok (.bipush 46, 2) := by decide +kernel
theorem dX4_init_7 : decode cX4_init 7 = .ok (.newarray .int, 2) := by decide +kernel
theorem dX4_init_9 : decode cX4_init 9 = .ok (.putfield 7, 3) := by decide +kernel
theorem dX4_init_12 : decode cX4_init 12 = .ok (.aload_n 0, 1) := by decide +kernel
theorem dX4_init_13 : decode cX4_init 13 = .ok (.bipush 46, 2) := by decide +kernel
theorem dX4_init_15 : decode cX4_init 15 = .ok (.newarray .int, 2) := by decide +kernel
theorem dX4_init_17 : decode cX4_init 17 = .ok (.putfield 13, 3) := by decide +kernel
theorem dX4_init_20 : decode cX4_init 20 = .ok (.aload_n 0, 1) := by decide +kernel
theorem dX4_init_21 : decode cX4_init 21 = .ok (.bipush 46, 2) := by decide +kernel
theorem dX4_init_23 : decode cX4_init 23 = .ok (.newarray .int, 2) := by decide +kernel
theorem dX4_init_25 : decode cX4_init 25 = .ok (.putfield 16, 3) := by decide +kernel
theorem dX4_init_28 : decode cX4_init 28 = .ok (.aload_n 0, 1) := by decide +kernel
theorem dX4_init_29 : decode cX4_init 29 = .ok (.bipush 46, 2) := by decide +kernel
theorem dX4_init_31 : decode cX4_init 31 = .ok (.newarray .int, 2) := by decide +kernel
theorem dX4_init_33 : decode cX4_init 33 = .ok (.putfield 19, 3) := by decide +kernel
theorem dX4_init_36 : decode cX4_init 36 = .ok (.aload_n 0, 1) := by decide +kernel
theorem dX4_init_37 : decode cX4_init 37 = .ok (.bipush 7, 2) := by decide +kernel
theorem dX4_init_39 : decode cX4_init 39 = .ok (.newarray .int, 2) := by decide +kernel
theorem dX4_init_41 : decode cX4_init 41 = .ok (.putfield 22, 3) := by decide +kernel
theorem dX4_init_44 : decode cX4_init 44 = .ok (.aload_n 0, 1) := by decide +kernel
theorem dX4_init_45 : decode cX4_init 45 = .ok (.bipush 12, 2) := by decide +kernel
theorem dX4_init_47 : decode cX4_init 47 = .ok (.newarray .int, 2) := by decide +kernel
theorem dX4_init_49 : decode cX4_init 49 = .ok (.putfield 25, 3) := by decide +kernel
theorem dX4_init_52 : decode cX4_init 52 = .ok (.aload_n 0, 1) := by decide +kernel
theorem dX4_init_53 : decode cX4_init 53 = .ok (.bipush 120, 2) := by decide +kernel
theorem dX4_init_55 : decode cX4_init 55 = .ok (.newarray .int, 2) := by decide +kernel
theorem dX4_init_57 : decode cX4_init 57 = .ok (.putfield 28, 3) := by decide +kernel
theorem dX4_init_60 : decode cX4_init 60 = .ok (.aload_n 0, 1) := by decide +kernel
theorem dX4_init_61 : decode cX4_init 61 = .ok (.iconst 4, 1) := by decide +kernel
theorem dX4_init_62 : decode cX4_init 62 = .ok (.newarray .int, 2) := by decide +kernel
theorem dX4_init_64 : decode cX4_init 64 = .ok (.putfield 31, 3) := by decide +kernel
theorem dX4_init_67 : decode cX4_init 67 = .ok (.aload_n 0, 1) := by decide +kernel
theorem dX4_init_68 : decode cX4_init 68 = .ok (.iconst 4, 1) := by decide +kernel
theorem dX4_init_69 : decode cX4_init 69 = .ok (.newarray .int, 2) := by decide +kernel
theorem dX4_init_71 : decode cX4_init 71 = .ok (.putfield 34, 3) := by decide +kernel
theorem dX4_init_74 : decode cX4_init 74 = .ok (.aload_n 0, 1) := by decide +kernel
theorem dX4_init_75 : decode cX4_init 75 = .ok (.sipush 160, 3) := by decide +kernel
theorem dX4_init_78 : decode cX4_init 78 = .ok (.newarray .long, 2) := by decide +kernel
theorem dX4_init_80 : decode cX4_init 80 = .ok (.putfield 37, 3) := by decide +kernel
theorem dX4_init_83 : decode cX4_init 83 = .ok (.aload_n 0, 1) := by decide +kernel
theorem dX4_init_84 : decode cX4_init 84 = .ok (.bipush 40, 2) := by decide +kernel
theorem dX4_init_86 : decode cX4_init 86 = .ok (.newarray .long, 2) := by decide +kernel
theorem dX4_init_88 : decode cX4_init 88 = .ok (.putfield 41, 3) := by decide +kernel
theorem dX4_init_91 : decode cX4_init 91 = .ok (.aload_n 0, 1) := by decide +kernel
theorem dX4_init_92 : decode cX4_init 92 = .ok (.getfield 7, 3) := by decide +kernel
theorem dX4_init_95 : decode cX4_init 95 = .ok (.iconst 2, 1) := by decide +kernel
theorem dX4_init_96 : decode cX4_init 96 = .ok (.sipush 1000, 3) := by decide +kernel
theorem dX4_init_99 : decode cX4_init 99 = .ok (.iastore, 1) := by decide +kernel
theorem dX4_init_100 : decode cX4_init 100 = .ok (.return_, 1) := by decide +kernel
theorem dX4_in_0 : decode cX4_in 0 = .ok (.lload_n 0, 1) := by decide +kernel
theorem dX4_in_1 : decode cX4_in 1 = .ok (.lload_n 2, 1) := by decide +kernel
theorem dX4_in_2 : decode cX4_in 2 = .ok (.lcmp, 1) := by decide +kernel
theorem dX4_in_3 : decode cX4_in 3 = .ok (.ifCond .lt 14, 3) := by decide +kernel
theorem dX4_in_6 : decode cX4_in 6 = .ok (.lload_n 0, 1) := by decide +kernel
theorem dX4_in_7 : decode cX4_in 7 = .ok (.lload 4, 2) := by decide +kernel
theorem dX4_in_9 : decode cX4_in 9 = .ok (.lcmp, 1) := by decide +kernel
theorem dX4_in_10 : decode cX4_in 10 = .ok (.ifCond .gt 7, 3) := by decide +kernel
theorem dX4_in_13 : decode cX4_in 13 = .ok (.iconst 1, 1) := by decide +kernel
theorem dX4_in_14 : decode cX4_in 14 = .ok (.goto 4, 3) := by decide +kernel
theorem dX4_in_17 : decode cX4_in 17 = .ok (.iconst 0, 1) := by decide +kernel
theorem dX4_in_18 : decode cX4_in 18 = .ok (.ireturn, 1) := by decide +kernel
theorem dX4_finds_0 : decode cX4_finds 0 = .ok (.aload_n 0, 1) := by decide +kernel
theorem dX4_finds_1 : decode cX4_finds 1 = .ok (.getfield 22, 3) := by decide +kernel
theorem dX4_finds_4 : decode cX4_finds 4 = .ok (.ldc 44, 2) := by decide +kernel
theorem dX4_finds_6 : decode cX4_finds 6 = .ok (.iload_n 1, 1) := by decide +kernel
theorem dX4_finds_7 : decode cX4_finds 7 = .ok (.isub, 1) := by decide +kernel
theorem dX4_finds_8 : decode cX4_finds 8 = .ok (.dup2, 1) := by decide +kernel
theorem dX4_finds_9 : decode cX4_finds 9 = .ok (.iaload, 1) := by decide +kernel
theorem dX4_finds_10 : decode cX4_finds 10 = .ok (.iconst 1, 1) := by decide +kernel
theorem dX4_finds_11 : decode cX4_finds 11 = .ok (.iadd, 1) := by decide +kernel
theorem dX4_finds_12 : decode cX4_finds 12 = .ok (.iastore, 1) := by decide +kernel
theorem dX4_finds_13 : decode cX4_finds 13 = .ok (.iload_n 1, 1) := by decide +kernel
theorem dX4_finds_14 : decode cX4_finds 14 = .ok (.ireturn, 1) := by decide +kernel
theorem dX4_saves_0 : decode cX4_saves 0 = .ok (.iconst 0, 1) := by decide +kernel
theorem dX4_saves_1 : decode cX4_saves 1 = .ok (.istore_n 1, 1) := by decide +kernel
theorem dX4_saves_2 : decode cX4_saves 2 = .ok (.iload_n 1, 1) := by decide +kernel
theorem dX4_saves_3 : decode cX4_saves 3 = .ok (.bipush 46, 2) := by decide +kernel
theorem dX4_saves_5 : decode cX4_saves 5 = .ok (.if_icmp .ge 21, 3) := by decide +kernel
theorem dX4_saves_8 : decode cX4_saves 8 = .ok (.aload_n 0, 1) := by decide +kernel
theorem dX4_saves_9 : decode cX4_saves 9 = .ok (.getfield 16, 3) := by decide +kernel
theorem dX4_saves_12 : decode cX4_saves 12 = .ok (.iload_n 1, 1) := by decide +kernel
theorem dX4_saves_13 : decode cX4_saves 13 = .ok (.aload_n 0, 1) := by decide +kernel
theorem dX4_saves_14 : decode cX4_saves 14 = .ok (.getfield 7, 3) := by decide +kernel
theorem dX4_saves_17 : decode cX4_saves 17 = .ok (.iload_n 1, 1) := by decide +kernel
theorem dX4_saves_18 : decode cX4_saves 18 = .ok (.iaload, 1) := by decide +kernel
theorem dX4_saves_19 : decode cX4_saves 19 = .ok (.iastore, 1) := by decide +kernel
theorem dX4_saves_20 : decode cX4_saves 20 = .ok (.iinc 1 1, 3) := by decide +kernel
theorem dX4_saves_23 : decode cX4_saves 23 = .ok (.goto (-21), 3) := by decide +kernel
theorem dX4_saves_26 : decode cX4_saves 26 = .ok (.return_, 1) := by decide +kernel
theorem dX4_putsBack_0 : decode cX4_putsBack 0 = .ok (.iconst 0, 1) := by decide +kernel
theorem dX4_putsBack_1 : decode cX4_putsBack 1 = .ok (.istore_n 1, 1) := by decide +kernel
theorem dX4_putsBack_2 : decode cX4_putsBack 2 = .ok (.iload_n 1, 1) := by decide +kernel
theorem dX4_putsBack_3 : decode cX4_putsBack 3 = .ok (.bipush 46, 2) := by decide +kernel
theorem dX4_putsBack_5 : decode cX4_putsBack 5 = .ok (.if_icmp .ge 21, 3) := by decide +kernel
theorem dX4_putsBack_8 : decode cX4_putsBack 8 = .ok (.aload_n 0, 1) := by decide +kernel
theorem dX4_putsBack_9 : decode cX4_putsBack 9 = .ok (.getfield 7, 3) := by decide +kernel
theorem dX4_putsBack_12 : decode cX4_putsBack 12 = .ok (.iload_n 1, 1) := by decide +kernel
theorem dX4_putsBack_13 : decode cX4_putsBack 13 = .ok (.aload_n 0, 1) := by decide +kernel
theorem dX4_putsBack_14 : decode cX4_putsBack 14 = .ok (.getfield 16, 3) := by decide +kernel
theorem dX4_putsBack_17 : decode cX4_putsBack 17 = .ok (.iload_n 1, 1) := by decide +kernel
theorem dX4_putsBack_18 : decode cX4_putsBack 18 = .ok (.iaload, 1) := by decide +kernel
theorem dX4_putsBack_19 : decode cX4_putsBack 19 = .ok (.iastore, 1) := by decide +kernel
theorem dX4_putsBack_20 : decode cX4_putsBack 20 = .ok (.iinc 1 1, 3) := by decide +kernel
theorem dX4_putsBack_23 : decode cX4_putsBack 23 = .ok (.goto (-21), 3) := by decide +kernel
theorem dX4_putsBack_26 : decode cX4_putsBack 26 = .ok (.return_, 1) := by decide +kernel
theorem dX4_laysAside_0 : decode cX4_laysAside 0 = .ok (.iconst 0, 1) := by decide +kernel
theorem dX4_laysAside_1 : decode cX4_laysAside 1 = .ok (.istore_n 1, 1) := by decide +kernel
theorem dX4_laysAside_2 : decode cX4_laysAside 2 = .ok (.iload_n 1, 1) := by decide +kernel
theorem dX4_laysAside_3 : decode cX4_laysAside 3 = .ok (.bipush 46, 2) := by decide +kernel
theorem dX4_laysAside_5 : decode cX4_laysAside 5 = .ok (.if_icmp .ge 21, 3) := by decide +kernel
theorem dX4_laysAside_8 : decode cX4_laysAside 8 = .ok (.aload_n 0, 1) := by decide +kernel
theorem dX4_laysAside_9 : decode cX4_laysAside 9 = .ok (.getfield 19, 3) := by decide +kernel
theorem dX4_laysAside_12 : decode cX4_laysAside 12 = .ok (.iload_n 1, 1) := by decide +kernel
theorem dX4_laysAside_13 : decode cX4_laysAside 13 = .ok (.aload_n 0, 1) := by decide +kernel
theorem dX4_laysAside_14 : decode cX4_laysAside 14 = .ok (.getfield 7, 3) := by decide +kernel
theorem dX4_laysAside_17 : decode cX4_laysAside 17 = .ok (.iload_n 1, 1) := by decide +kernel
theorem dX4_laysAside_18 : decode cX4_laysAside 18 = .ok (.iaload, 1) := by decide +kernel
theorem dX4_laysAside_19 : decode cX4_laysAside 19 = .ok (.iastore, 1) := by decide +kernel
theorem dX4_laysAside_20 : decode cX4_laysAside 20 = .ok (.iinc 1 1, 3) := by decide +kernel
theorem dX4_laysAside_23 : decode cX4_laysAside 23 = .ok (.goto (-21), 3) := by decide +kernel
theorem dX4_laysAside_26 : decode cX4_laysAside 26 = .ok (.return_, 1) := by decide +kernel
theorem dX4_takesBack_0 : decode cX4_takesBack 0 = .ok (.iconst 0, 1) := by decide +kernel
theorem dX4_takesBack_1 : decode cX4_takesBack 1 = .ok (.istore_n 2, 1) := by decide +kernel
theorem dX4_takesBack_2 : decode cX4_takesBack 2 = .ok (.iload_n 2, 1) := by decide +kernel
theorem dX4_takesBack_3 : decode cX4_takesBack 3 = .ok (.bipush 46, 2) := by decide +kernel
theorem dX4_takesBack_5 : decode cX4_takesBack 5 = .ok (.if_icmp .ge 21, 3) := by decide +kernel
theorem dX4_takesBack_8 : decode cX4_takesBack 8 = .ok (.aload_n 0, 1) := by decide +kernel
theorem dX4_takesBack_9 : decode cX4_takesBack 9 = .ok (.getfield 7, 3) := by decide +kernel
theorem dX4_takesBack_12 : decode cX4_takesBack 12 = .ok (.iload_n 2, 1) := by decide +kernel
theorem dX4_takesBack_13 : decode cX4_takesBack 13 = .ok (.aload_n 0, 1) := by decide +kernel
theorem dX4_takesBack_14 : decode cX4_takesBack 14 = .ok (.getfield 19, 3) := by decide +kernel
theorem dX4_takesBack_17 : decode cX4_takesBack 17 = .ok (.iload_n 2, 1) := by decide +kernel
theorem dX4_takesBack_18 : decode cX4_takesBack 18 = .ok (.iaload, 1) := by decide +kernel
theorem dX4_takesBack_19 : decode cX4_takesBack 19 = .ok (.iastore, 1) := by decide +kernel
theorem dX4_takesBack_20 : decode cX4_takesBack 20 = .ok (.iinc 2 1, 3) := by decide +kernel
theorem dX4_takesBack_23 : decode cX4_takesBack 23 = .ok (.goto (-21), 3) := by decide +kernel
theorem dX4_takesBack_26 : decode cX4_takesBack 26 = .ok (.iload_n 1, 1) := by decide +kernel
theorem dX4_takesBack_27 : decode cX4_takesBack 27 = .ok (.ireturn, 1) := by decide +kernel
theorem dX4_becomes_0 : decode cX4_becomes 0 = .ok (.aload_n 0, 1) := by decide +kernel
theorem dX4_becomes_1 : decode cX4_becomes 1 = .ok (.getfield 7, 3) := by decide +kernel
theorem dX4_becomes_4 : decode cX4_becomes 4 = .ok (.iload_n 1, 1) := by decide +kernel
theorem dX4_becomes_5 : decode cX4_becomes 5 = .ok (.iaload, 1) := by decide +kernel
theorem dX4_becomes_6 : decode cX4_becomes 6 = .ok (.istore_n 3, 1) := by decide +kernel
theorem dX4_becomes_7 : decode cX4_becomes 7 = .ok (.aload_n 0, 1) := by decide +kernel
theorem dX4_becomes_8 : decode cX4_becomes 8 = .ok (.getfield 7, 3) := by decide +kernel
theorem dX4_becomes_11 : decode cX4_becomes 11 = .ok (.iload_n 1, 1) := by decide +kernel
theorem dX4_becomes_12 : decode cX4_becomes 12 = .ok (.iload_n 2, 1) := by decide +kernel
theorem dX4_becomes_13 : decode cX4_becomes 13 = .ok (.iastore, 1) := by decide +kernel
theorem dX4_becomes_14 : decode cX4_becomes 14 = .ok (.iload_n 3, 1) := by decide +kernel
theorem dX4_becomes_15 : decode cX4_becomes 15 = .ok (.ireturn, 1) := by decide +kernel
theorem dX4_isPart_0 : decode cX4_isPart 0 = .ok (.iload_n 0, 1) := by decide +kernel
theorem dX4_isPart_1 : decode cX4_isPart 1 = .ok (.i2l, 1) := by decide +kernel
theorem dX4_isPart_2 : decode cX4_isPart 2 = .ok (.lconst 0, 1) := by decide +kernel
theorem dX4_isPart_3 : decode cX4_isPart 3 = .ok (.ldc2_w 45, 3) := by decide +kernel
theorem dX4_isPart_6 : decode cX4_isPart 6 = .ok (.invokestatic 47, 3) := by decide +kernel
theorem dX4_isPart_9 : decode cX4_isPart 9 = .ok (.ireturn, 1) := by decide +kernel
theorem dX4_isCook_0 : decode cX4_isCook 0 = .ok (.iload_n 1, 1) := by decide +kernel
theorem dX4_isCook_1 : decode cX4_isCook 1 = .ok (.i2l, 1) := by decide +kernel
theorem dX4_isCook_2 : decode cX4_isCook 2 = .ok (.lconst 0, 1) := by decide +kernel
theorem dX4_isCook_3 : decode cX4_isCook 3 = .ok (.aload_n 0, 1) := by decide +kernel
theorem dX4_isCook_4 : decode cX4_isCook 4 = .ok (.getfield 7, 3) := by decide +kernel
theorem dX4_isCook_7 : decode cX4_isCook 7 = .ok (.iconst 0, 1) := by decide +kernel
theorem dX4_isCook_8 : decode cX4_isCook 8 = .ok (.iaload, 1) := by decide +kernel
theorem dX4_isCook_9 : decode cX4_isCook 9 = .ok (.iconst 1, 1) := by decide +kernel
theorem dX4_isCook_10 : decode cX4_isCook 10 = .ok (.isub, 1) := by decide +kernel
theorem dX4_isCook_11 : decode cX4_isCook 11 = .ok (.i2l, 1) := by decide +kernel
theorem dX4_isCook_12 : decode cX4_isCook 12 = .ok (.invokestatic 47, 3) := by decide +kernel
theorem dX4_isCook_15 : decode cX4_isCook 15 = .ok (.ireturn, 1) := by decide +kernel
theorem dX4_areTwo_0 : decode cX4_areTwo 0 = .ok (.aload_n 0, 1) := by decide +kernel
theorem dX4_areTwo_1 : decode cX4_areTwo 1 = .ok (.iload_n 1, 1) := by decide +kernel
theorem dX4_areTwo_2 : decode cX4_areTwo 2 = .ok (.invokevirtual 51, 3) := by decide +kernel
theorem dX4_areTwo_5 : decode cX4_areTwo 5 = .ok (.ifCond .eq 20, 3) := by decide +kernel
theorem dX4_areTwo_8 : decode cX4_areTwo 8 = .ok (.aload_n 0, 1) := by decide +kernel
theorem dX4_areTwo_9 : decode cX4_areTwo 9 = .ok (.iload_n 2, 1) := by decide +kernel
theorem dX4_areTwo_10 : decode cX4_areTwo 10 = .ok (.invokevirtual 51, 3) := by decide +kernel
theorem dX4_areTwo_13 : decode cX4_areTwo 13 = .ok (.ifCond .eq 12, 3) := by decide +kernel
theorem dX4_areTwo_16 : decode cX4_areTwo 16 = .ok (.iload_n 1, 1) := by decide +kernel
theorem dX4_areTwo_17 : decode cX4_areTwo 17 = .ok (.iload_n 2, 1) := by decide +kernel
theorem dX4_areTwo_18 : decode cX4_areTwo 18 = .ok (.if_icmp .eq 7, 3) := by decide +kernel
theorem dX4_areTwo_21 : decode cX4_areTwo 21 = .ok (.iconst 1, 1) := by decide +kernel
theorem dX4_areTwo_22 : decode cX4_areTwo 22 = .ok (.goto 4, 3) := by decide +kernel
theorem dX4_areTwo_25 : decode cX4_areTwo 25 = .ok (.iconst 0, 1) := by decide +kernel
theorem dX4_areTwo_26 : decode cX4_areTwo 26 = .ok (.ireturn, 1) := by decide +kernel
theorem dX4_isKind_0 : decode cX4_isKind 0 = .ok (.iload_n 0, 1) := by decide +kernel
theorem dX4_isKind_1 : decode cX4_isKind 1 = .ok (.i2l, 1) := by decide +kernel
theorem dX4_isKind_2 : decode cX4_isKind 2 = .ok (.lconst 0, 1) := by decide +kernel
theorem dX4_isKind_3 : decode cX4_isKind 3 = .ok (.ldc2_w 55, 3) := by decide +kernel
theorem dX4_isKind_6 : decode cX4_isKind 6 = .ok (.invokestatic 47, 3) := by decide +kernel
theorem dX4_isKind_9 : decode cX4_isKind 9 = .ok (.ireturn, 1) := by decide +kernel
theorem dX4_spotOf_0 : decode cX4_spotOf 0 = .ok (.bipush 14, 2) := by decide +kernel
theorem dX4_spotOf_2 : decode cX4_spotOf 2 = .ok (.iconst 4, 1) := by decide +kernel
theorem dX4_spotOf_3 : decode cX4_spotOf 3 = .ok (.iload_n 0, 1) := by decide +kernel
theorem dX4_spotOf_4 : decode cX4_spotOf 4 = .ok (.imul, 1) := by decide +kernel
theorem dX4_spotOf_5 : decode cX4_spotOf 5 = .ok (.iadd, 1) := by decide +kernel
theorem dX4_spotOf_6 : decode cX4_spotOf 6 = .ok (.iload_n 1, 1) := by decide +kernel
theorem dX4_spotOf_7 : decode cX4_spotOf 7 = .ok (.iadd, 1) := by decide +kernel
theorem dX4_spotOf_8 : decode cX4_spotOf 8 = .ok (.ireturn, 1) := by decide +kernel
theorem dX4_its_0 : decode cX4_its 0 = .ok (.aload_n 0, 1) := by decide +kernel
theorem dX4_its_1 : decode cX4_its 1 = .ok (.getfield 7, 3) := by decide +kernel
theorem dX4_its_4 : decode cX4_its 4 = .ok (.iload_n 1, 1) := by decide +kernel
theorem dX4_its_5 : decode cX4_its 5 = .ok (.iload_n 2, 1) := by decide +kernel
theorem dX4_its_6 : decode cX4_its 6 = .ok (.invokestatic 57, 3) := by decide +kernel
theorem dX4_its_9 : decode cX4_its 9 = .ok (.iaload, 1) := by decide +kernel
theorem dX4_its_10 : decode cX4_its 10 = .ok (.ireturn, 1) := by decide +kernel
theorem dX4_all_0 : decode cX4_all 0 = .ok (.iconst 0, 1) := by decide +kernel
theorem dX4_all_1 : decode cX4_all 1 = .ok (.istore_n 1, 1) := by decide +kernel
theorem dX4_all_2 : decode cX4_all 2 = .ok (.iconst 0, 1) := by decide +kernel
theorem dX4_all_3 : decode cX4_all 3 = .ok (.istore_n 2, 1) := by decide +kernel
theorem dX4_all_4 : decode cX4_all 4 = .ok (.iload_n 2, 1) := by decide +kernel
theorem dX4_all_5 : decode cX4_all 5 = .ok (.bipush 12, 2) := by decide +kernel
theorem dX4_all_7 : decode cX4_all 7 = .ok (.if_icmp .ge 20, 3) := by decide +kernel
theorem dX4_all_10 : decode cX4_all 10 = .ok (.iload_n 1, 1) := by decide +kernel
theorem dX4_all_11 : decode cX4_all 11 = .ok (.aload_n 0, 1) := by decide +kernel
theorem dX4_all_12 : decode cX4_all 12 = .ok (.getfield 7, 3) := by decide +kernel
theorem dX4_all_15 : decode cX4_all 15 = .ok (.iconst 2, 1) := by decide +kernel
theorem dX4_all_16 : decode cX4_all 16 = .ok (.iload_n 2, 1) := by decide +kernel
theorem dX4_all_17 : decode cX4_all 17 = .ok (.iadd, 1) := by decide +kernel
theorem dX4_all_18 : decode cX4_all 18 = .ok (.iaload, 1) := by decide +kernel
theorem dX4_all_19 : decode cX4_all 19 = .ok (.iadd, 1) := by decide +kernel
theorem dX4_all_20 : decode cX4_all 20 = .ok (.istore_n 1, 1) := by decide +kernel
theorem dX4_all_21 : decode cX4_all 21 = .ok (.iinc 2 1, 3) := by decide +kernel
theorem dX4_all_24 : decode cX4_all 24 = .ok (.goto (-20), 3) := by decide +kernel
theorem dX4_all_27 : decode cX4_all 27 = .ok (.iload_n 1, 1) := by decide +kernel
theorem dX4_all_28 : decode cX4_all 28 = .ok (.ireturn, 1) := by decide +kernel
theorem dX4_grains_0 : decode cX4_grains 0 = .ok (.iload_n 1, 1) := by decide +kernel
theorem dX4_grains_1 : decode cX4_grains 1 = .ok (.invokestatic 61, 3) := by decide +kernel
theorem dX4_grains_4 : decode cX4_grains 4 = .ok (.ifCond .eq 14, 3) := by decide +kernel
theorem dX4_grains_7 : decode cX4_grains 7 = .ok (.aload_n 0, 1) := by decide +kernel
theorem dX4_grains_8 : decode cX4_grains 8 = .ok (.getfield 7, 3) := by decide +kernel
theorem dX4_grains_11 : decode cX4_grains 11 = .ok (.iconst 2, 1) := by decide +kernel
theorem dX4_grains_12 : decode cX4_grains 12 = .ok (.iload_n 1, 1) := by decide +kernel
theorem dX4_grains_13 : decode cX4_grains 13 = .ok (.iadd, 1) := by decide +kernel
theorem dX4_grains_14 : decode cX4_grains 14 = .ok (.iaload, 1) := by decide +kernel
theorem dX4_grains_15 : decode cX4_grains 15 = .ok (.goto 9, 3) := by decide +kernel
theorem dX4_grains_18 : decode cX4_grains 18 = .ok (.aload_n 0, 1) := by decide +kernel
theorem dX4_grains_19 : decode cX4_grains 19 = .ok (.ldc 44, 2) := by decide +kernel
theorem dX4_grains_21 : decode cX4_grains 21 = .ok (.invokevirtual 64, 3) := by decide +kernel
theorem dX4_grains_24 : decode cX4_grains 24 = .ok (.ireturn, 1) := by decide +kernel
theorem dX4_pour_0 : decode cX4_pour 0 = .ok (.iload_n 1, 1) := by decide +kernel
theorem dX4_pour_1 : decode cX4_pour 1 = .ok (.invokestatic 61, 3) := by decide +kernel
theorem dX4_pour_4 : decode cX4_pour 4 = .ok (.ifCond .eq 15, 3) := by decide +kernel
theorem dX4_pour_7 : decode cX4_pour 7 = .ok (.iload_n 2, 1) := by decide +kernel
theorem dX4_pour_8 : decode cX4_pour 8 = .ok (.i2l, 1) := by decide +kernel
theorem dX4_pour_9 : decode cX4_pour 9 = .ok (.lconst 0, 1) := by decide +kernel
theorem dX4_pour_10 : decode cX4_pour 10 = .ok (.ldc2_w 68, 3) := by decide +kernel
theorem dX4_pour_13 : decode cX4_pour 13 = .ok (.invokestatic 47, 3) := by decide +kernel
theorem dX4_pour_16 : decode cX4_pour 16 = .ok (.ifCond .ne 10, 3) := by decide +kernel
theorem dX4_pour_19 : decode cX4_pour 19 = .ok (.aload_n 0, 1) := by decide +kernel
theorem dX4_pour_20 : decode cX4_pour 20 = .ok (.ldc 44, 2) := by decide +kernel
theorem dX4_pour_22 : decode cX4_pour 22 = .ok (.invokevirtual 64, 3) := by decide +kernel
theorem dX4_pour_25 : decode cX4_pour 25 = .ok (.ireturn, 1) := by decide +kernel
theorem dX4_pour_26 : decode cX4_pour 26 = .ok (.aload_n 0, 1) := by decide +kernel
theorem dX4_pour_27 : decode cX4_pour 27 = .ok (.invokevirtual 70, 3) := by decide +kernel
theorem dX4_pour_30 : decode cX4_pour 30 = .ok (.aload_n 0, 1) := by decide +kernel
theorem dX4_pour_31 : decode cX4_pour 31 = .ok (.getfield 7, 3) := by decide +kernel
theorem dX4_pour_34 : decode cX4_pour 34 = .ok (.iconst 2, 1) := by decide +kernel
theorem dX4_pour_35 : decode cX4_pour 35 = .ok (.iload_n 1, 1) := by decide +kernel
theorem dX4_pour_36 : decode cX4_pour 36 = .ok (.iadd, 1) := by decide +kernel
theorem dX4_pour_37 : decode cX4_pour 37 = .ok (.iaload, 1) := by decide +kernel
theorem dX4_pour_38 : decode cX4_pour 38 = .ok (.isub, 1) := by decide +kernel
theorem dX4_pour_39 : decode cX4_pour 39 = .ok (.iload_n 2, 1) := by decide +kernel
theorem dX4_pour_40 : decode cX4_pour 40 = .ok (.iadd, 1) := by decide +kernel
theorem dX4_pour_41 : decode cX4_pour 41 = .ok (.ldc 74, 2) := by decide +kernel
theorem dX4_pour_43 : decode cX4_pour 43 = .ok (.if_icmp .le 12, 3) := by decide +kernel
theorem dX4_pour_46 : decode cX4_pour 46 = .ok (.aload_n 0, 1) := by decide +kernel
theorem dX4_pour_47 : decode cX4_pour 47 = .ok (.ldc 75, 2) := by decide +kernel
theorem dX4_pour_49 : decode cX4_pour 49 = .ok (.invokevirtual 64, 3) := by decide +kernel
theorem dX4_pour_52 : decode cX4_pour 52 = .ok (.goto 11, 3) := by decide +kernel
theorem dX4_pour_55 : decode cX4_pour 55 = .ok (.aload_n 0, 1) := by decide +kernel
theorem dX4_pour_56 : decode cX4_pour 56 = .ok (.iconst 2, 1) := by decide +kernel
theorem dX4_pour_57 : decode cX4_pour 57 = .ok (.iload_n 1, 1) := by decide +kernel
theorem dX4_pour_58 : decode cX4_pour 58 = .ok (.iadd, 1) := by decide +kernel
theorem dX4_pour_59 : decode cX4_pour 59 = .ok (.iload_n 2, 1) := by decide +kernel
theorem dX4_pour_60 : decode cX4_pour 60 = .ok (.invokevirtual 76, 3) := by decide +kernel
theorem dX4_pour_63 : decode cX4_pour 63 = .ok (.ireturn, 1) := by decide +kernel
theorem dX4_tasteOf_0 : decode cX4_tasteOf 0 = .ok (.aload_n 0, 1) := by decide +kernel
theorem dX4_tasteOf_1 : decode cX4_tasteOf 1 = .ok (.invokevirtual 70, 3) := by decide +kernel
theorem dX4_tasteOf_4 : decode cX4_tasteOf 4 = .ok (.istore_n 2, 1) := by decide +kernel
theorem dX4_tasteOf_5 : decode cX4_tasteOf 5 = .ok (.iload_n 2, 1) := by decide +kernel
theorem dX4_tasteOf_6 : decode cX4_tasteOf 6 = .ok (.ifCond .ne 7, 3) := by decide +kernel
theorem dX4_tasteOf_9 : decode cX4_tasteOf 9 = .ok (.iconst 0, 1) := by decide +kernel
theorem dX4_tasteOf_10 : decode cX4_tasteOf 10 = .ok (.goto 17, 3) := by decide +kernel
theorem dX4_tasteOf_13 : decode cX4_tasteOf 13 = .ok (.sipush 1000, 3) := by decide +kernel
theorem dX4_tasteOf_16 : decode cX4_tasteOf 16 = .ok (.aload_n 0, 1) := by decide +kernel
theorem dX4_tasteOf_17 : decode cX4_tasteOf 17 = .ok (.getfield 7, 3) := by decide +kernel
theorem dX4_tasteOf_20 : decode cX4_tasteOf 20 = .ok (.iconst 2, 1) := by decide +kernel
theorem dX4_tasteOf_21 : decode cX4_tasteOf 21 = .ok (.iload_n 1, 1) := by decide +kernel
theorem dX4_tasteOf_22 : decode cX4_tasteOf 22 = .ok (.iadd, 1) := by decide +kernel
theorem dX4_tasteOf_23 : decode cX4_tasteOf 23 = .ok (.iaload, 1) := by decide +kernel
theorem dX4_tasteOf_24 : decode cX4_tasteOf 24 = .ok (.imul, 1) := by decide +kernel
theorem dX4_tasteOf_25 : decode cX4_tasteOf 25 = .ok (.iload_n 2, 1) := by decide +kernel
theorem dX4_tasteOf_26 : decode cX4_tasteOf 26 = .ok (.idiv, 1) := by decide +kernel
theorem dX4_tasteOf_27 : decode cX4_tasteOf 27 = .ok (.ireturn, 1) := by decide +kernel
theorem dX4_taste_0 : decode cX4_taste 0 = .ok (.iload_n 1, 1) := by decide +kernel
theorem dX4_taste_1 : decode cX4_taste 1 = .ok (.invokestatic 61, 3) := by decide +kernel
theorem dX4_taste_4 : decode cX4_taste 4 = .ok (.ifCond .eq 11, 3) := by decide +kernel
theorem dX4_taste_7 : decode cX4_taste 7 = .ok (.aload_n 0, 1) := by decide +kernel
theorem dX4_taste_8 : decode cX4_taste 8 = .ok (.iload_n 1, 1) := by decide +kernel
theorem dX4_taste_9 : decode cX4_taste 9 = .ok (.invokevirtual 79, 3) := by decide +kernel
theorem dX4_taste_12 : decode cX4_taste 12 = .ok (.goto 9, 3) := by decide +kernel
theorem dX4_taste_15 : decode cX4_taste 15 = .ok (.aload_n 0, 1) := by decide +kernel
theorem dX4_taste_16 : decode cX4_taste 16 = .ok (.ldc 44, 2) := by decide +kernel
theorem dX4_taste_18 : decode cX4_taste 18 = .ok (.invokevirtual 64, 3) := by decide +kernel
theorem dX4_taste_21 : decode cX4_taste 21 = .ok (.ireturn, 1) := by decide +kernel
theorem dX4_isVague_0 : decode cX4_isVague 0 = .ok (.aload_n 0, 1) := by decide +kernel
theorem dX4_isVague_1 : decode cX4_isVague 1 = .ok (.iconst 0, 1) := by decide +kernel
theorem dX4_isVague_2 : decode cX4_isVague 2 = .ok (.invokevirtual 79, 3) := by decide +kernel
theorem dX4_isVague_5 : decode cX4_isVague 5 = .ok (.sipush 500, 3) := by decide +kernel
theorem dX4_isVague_8 : decode cX4_isVague 8 = .ok (.if_icmp .le 7, 3) := by decide +kernel
theorem dX4_isVague_11 : decode cX4_isVague 11 = .ok (.iconst 1, 1) := by decide +kernel
theorem dX4_isVague_12 : decode cX4_isVague 12 = .ok (.goto 4, 3) := by decide +kernel
theorem dX4_isVague_15 : decode cX4_isVague 15 = .ok (.iconst 0, 1) := by decide +kernel
theorem dX4_isVague_16 : decode cX4_isVague 16 = .ok (.ireturn, 1) := by decide +kernel
theorem dX4_takesOut_0 : decode cX4_takesOut 0 = .ok (.aload_n 0, 1) := by decide +kernel
theorem dX4_takesOut_1 : decode cX4_takesOut 1 = .ok (.invokevirtual 70, 3) := by decide +kernel
theorem dX4_takesOut_4 : decode cX4_takesOut 4 = .ok (.istore_n 2, 1) := by decide +kernel
theorem dX4_takesOut_5 : decode cX4_takesOut 5 = .ok (.iload_n 1, 1) := by decide +kernel
theorem dX4_takesOut_6 : decode cX4_takesOut 6 = .ok (.iload_n 2, 1) := by decide +kernel
theorem dX4_takesOut_7 : decode cX4_takesOut 7 = .ok (.if_icmp .ge 7, 3) := by decide +kernel
theorem dX4_takesOut_10 : decode cX4_takesOut 10 = .ok (.iload_n 1, 1) := by decide +kernel
theorem dX4_takesOut_11 : decode cX4_takesOut 11 = .ok (.goto 4, 3) := by decide +kernel
theorem dX4_takesOut_14 : decode cX4_takesOut 14 = .ok (.iload_n 2, 1) := by decide +kernel
theorem dX4_takesOut_15 : decode cX4_takesOut 15 = .ok (.istore_n 3, 1) := by decide +kernel
theorem dX4_takesOut_16 : decode cX4_takesOut 16 = .ok (.iload_n 3, 1) := by decide +kernel
theorem dX4_takesOut_17 : decode cX4_takesOut 17 = .ok (.istore 4, 2) := by decide +kernel
theorem dX4_takesOut_19 : decode cX4_takesOut 19 = .ok (.iconst 0, 1) := by decide +kernel
theorem dX4_takesOut_20 : decode cX4_takesOut 20 = .ok (.istore 5, 2) := by decide +kernel
theorem dX4_takesOut_22 : decode cX4_takesOut 22 = .ok (.iload 5, 2) := by decide +kernel
theorem dX4_takesOut_24 : decode cX4_takesOut 24 = .ok (.bipush 12, 2) := by decide +kernel
theorem dX4_takesOut_26 : decode cX4_takesOut 26 = .ok (.if_icmp .ge 53, 3) := by decide +kernel
theorem dX4_takesOut_29 : decode cX4_takesOut 29 = .ok (.aload_n 0, 1) := by decide +kernel
theorem dX4_takesOut_30 : decode cX4_takesOut 30 = .ok (.getfield 25, 3) := by decide +kernel
theorem dX4_takesOut_33 : decode cX4_takesOut 33 = .ok (.iload 5, 2) := by decide +kernel
theorem dX4_takesOut_35 : decode cX4_takesOut 35 = .ok (.iload_n 2, 1) := by decide +kernel
theorem dX4_takesOut_36 : decode cX4_takesOut 36 = .ok (.ifCond .ne 7, 3) := by decide +kernel
theorem dX4_takesOut_39 : decode cX4_takesOut 39 = .ok (.iconst 0, 1) := by decide +kernel
theorem dX4_takesOut_40 : decode cX4_takesOut 40 = .ok (.goto 20, 3) := by decide +kernel
theorem dX4_takesOut_43 : decode cX4_takesOut 43 = .ok (.aload_n 0, 1) := by decide +kernel
theorem dX4_takesOut_44 : decode cX4_takesOut 44 = .ok (.getfield 7, 3) := by decide +kernel
theorem dX4_takesOut_47 : decode cX4_takesOut 47 = .ok (.iconst 2, 1) := by decide +kernel
theorem dX4_takesOut_48 : decode cX4_takesOut 48 = .ok (.iload 5, 2) := by decide +kernel
theorem dX4_takesOut_50 : decode cX4_takesOut 50 = .ok (.iadd, 1) := by decide +kernel
theorem dX4_takesOut_51 : decode cX4_takesOut 51 = .ok (.iaload, 1) := by decide +kernel
theorem dX4_takesOut_52 : decode cX4_takesOut 52 = .ok (.i2l, 1) := by decide +kernel
theorem dX4_takesOut_53 : decode cX4_takesOut 53 = .ok (.iload_n 3, 1) := by decide +kernel
theorem dX4_takesOut_54 : decode cX4_takesOut 54 = .ok (.i2l, 1) := by decide +kernel
theorem dX4_takesOut_55 : decode cX4_takesOut 55 = .ok (.lmul, 1) := by decide +kernel
theorem dX4_takesOut_56 : decode cX4_takesOut 56 = .ok (.iload_n 2, 1) := by decide +kernel
theorem dX4_takesOut_57 : decode cX4_takesOut 57 = .ok (.i2l, 1) := by decide +kernel
theorem dX4_takesOut_58 : decode cX4_takesOut 58 = .ok (.ldiv, 1) := by decide +kernel
theorem dX4_takesOut_59 : decode cX4_takesOut 59 = .ok (.l2i, 1) := by decide +kernel
theorem dX4_takesOut_60 : decode cX4_takesOut 60 = .ok (.iastore, 1) := by decide +kernel
theorem dX4_takesOut_61 : decode cX4_takesOut 61 = .ok (.iload 4, 2) := by decide +kernel
theorem dX4_takesOut_63 : decode cX4_takesOut 63 = .ok (.aload_n 0, 1) := by decide +kernel
theorem dX4_takesOut_64 : decode cX4_takesOut 64 = .ok (.getfield 25, 3) := by decide +kernel
theorem dX4_takesOut_67 : decode cX4_takesOut 67 = .ok (.iload 5, 2) := by decide +kernel
theorem dX4_takesOut_69 : decode cX4_takesOut 69 = .ok (.iaload, 1) := by decide +kernel
theorem dX4_takesOut_70 : decode cX4_takesOut 70 = .ok (.isub, 1) := by decide +kernel
theorem dX4_takesOut_71 : decode cX4_takesOut 71 = .ok (.istore 4, 2) := by decide +kernel
theorem dX4_takesOut_73 : decode cX4_takesOut 73 = .ok (.iinc 5 1, 3) := by decide +kernel
theorem dX4_takesOut_76 : decode cX4_takesOut 76 = .ok (.goto (-54), 3) := by decide +kernel
theorem dX4_takesOut_79 : decode cX4_takesOut 79 = .ok (.iload 4, 2) := by decide +kernel
theorem dX4_takesOut_81 : decode cX4_takesOut 81 = .ok (.ifCond .le 72, 3) := by decide +kernel
theorem dX4_takesOut_84 : decode cX4_takesOut 84 = .ok (.iconst 0, 1) := by decide +kernel
theorem dX4_takesOut_85 : decode cX4_takesOut 85 = .ok (.istore 5, 2) := by decide +kernel
theorem dX4_takesOut_87 : decode cX4_takesOut 87 = .ok (.iload 5, 2) := by decide +kernel
theorem dX4_takesOut_89 : decode cX4_takesOut 89 = .ok (.bipush 12, 2) := by decide +kernel
theorem dX4_takesOut_91 : decode cX4_takesOut 91 = .ok (.if_icmp .ge 59, 3) := by decide +kernel
theorem dX4_takesOut_94 : decode cX4_takesOut 94 = .ok (.iload 4, 2) := by decide +kernel
theorem dX4_takesOut_96 : decode cX4_takesOut 96 = .ok (.ifCond .le 26, 3) := by decide +kernel
theorem dX4_takesOut_99 : decode cX4_takesOut 99 = .ok (.aload_n 0, 1) := by decide +kernel
theorem dX4_takesOut_100 : decode cX4_takesOut 100 = .ok (.getfield 7, 3) := by decide +kernel
theorem dX4_takesOut_103 : decode cX4_takesOut 103 = .ok (.iconst 2, 1) := by decide +kernel
theorem dX4_takesOut_104 : decode cX4_takesOut 104 = .ok (.iload 5, 2) := by decide +kernel
theorem dX4_takesOut_106 : decode cX4_takesOut 106 = .ok (.iadd, 1) := by decide +kernel
theorem dX4_takesOut_107 : decode cX4_takesOut 107 = .ok (.iaload, 1) := by decide +kernel
theorem dX4_takesOut_108 : decode cX4_takesOut 108 = .ok (.aload_n 0, 1) := by decide +kernel
theorem dX4_takesOut_109 : decode cX4_takesOut 109 = .ok (.getfield 25, 3) := by decide +kernel
theorem dX4_takesOut_112 : decode cX4_takesOut 112 = .ok (.iload 5, 2) := by decide +kernel
theorem dX4_takesOut_114 : decode cX4_takesOut 114 = .ok (.iaload, 1) := by decide +kernel
theorem dX4_takesOut_115 : decode cX4_takesOut 115 = .ok (.if_icmp .le 7, 3) := by decide +kernel
theorem dX4_takesOut_118 : decode cX4_takesOut 118 = .ok (.iconst 1, 1) := by decide +kernel
theorem dX4_takesOut_119 : decode cX4_takesOut 119 = .ok (.goto 4, 3) := by decide +kernel
theorem dX4_takesOut_122 : decode cX4_takesOut 122 = .ok (.iconst 0, 1) := by decide +kernel
theorem dX4_takesOut_123 : decode cX4_takesOut 123 = .ok (.istore 6, 2) := by decide +kernel
theorem dX4_takesOut_125 : decode cX4_takesOut 125 = .ok (.aload_n 0, 1) := by decide +kernel
theorem dX4_takesOut_126 : decode cX4_takesOut 126 = .ok (.getfield 25, 3) := by decide +kernel
theorem dX4_takesOut_129 : decode cX4_takesOut 129 = .ok (.iload 5, 2) := by decide +kernel
theorem dX4_takesOut_131 : decode cX4_takesOut 131 = .ok (.dup2, 1) := by decide +kernel
theorem dX4_takesOut_132 : decode cX4_takesOut 132 = .ok (.iaload, 1) := by decide +kernel
theorem dX4_takesOut_133 : decode cX4_takesOut 133 = .ok (.iload 6, 2) := by decide +kernel
theorem dX4_takesOut_135 : decode cX4_takesOut 135 = .ok (.iadd, 1) := by decide +kernel
theorem dX4_takesOut_136 : decode cX4_takesOut 136 = .ok (.iastore, 1) := by decide +kernel
theorem dX4_takesOut_137 : decode cX4_takesOut 137 = .ok (.iload 4, 2) := by decide +kernel
theorem dX4_takesOut_139 : decode cX4_takesOut 139 = .ok (.iload 6, 2) := by decide +kernel
theorem dX4_takesOut_141 : decode cX4_takesOut 141 = .ok (.isub, 1) := by decide +kernel
theorem dX4_takesOut_142 : decode cX4_takesOut 142 = .ok (.istore 4, 2) := by decide +kernel
theorem dX4_takesOut_144 : decode cX4_takesOut 144 = .ok (.iinc 5 1, 3) := by decide +kernel
theorem dX4_takesOut_147 : decode cX4_takesOut 147 = .ok (.goto (-60), 3) := by decide +kernel
theorem dX4_takesOut_150 : decode cX4_takesOut 150 = .ok (.goto (-71), 3) := by decide +kernel
theorem dX4_takesOut_153 : decode cX4_takesOut 153 = .ok (.iconst 0, 1) := by decide +kernel
theorem dX4_takesOut_154 : decode cX4_takesOut 154 = .ok (.istore 5, 2) := by decide +kernel
theorem dX4_takesOut_156 : decode cX4_takesOut 156 = .ok (.iload 5, 2) := by decide +kernel
theorem dX4_takesOut_158 : decode cX4_takesOut 158 = .ok (.bipush 12, 2) := by decide +kernel
theorem dX4_takesOut_160 : decode cX4_takesOut 160 = .ok (.if_icmp .ge 28, 3) := by decide +kernel
theorem dX4_takesOut_163 : decode cX4_takesOut 163 = .ok (.aload_n 0, 1) := by decide +kernel
theorem dX4_takesOut_164 : decode cX4_takesOut 164 = .ok (.getfield 7, 3) := by decide +kernel
theorem dX4_takesOut_167 : decode cX4_takesOut 167 = .ok (.iconst 2, 1) := by decide +kernel
theorem dX4_takesOut_168 : decode cX4_takesOut 168 = .ok (.iload 5, 2) := by decide +kernel
theorem dX4_takesOut_170 : decode cX4_takesOut 170 = .ok (.iadd, 1) := by decide +kernel
theorem dX4_takesOut_171 : decode cX4_takesOut 171 = .ok (.dup2, 1) := by decide +kernel
theorem dX4_takesOut_172 : decode cX4_takesOut 172 = .ok (.iaload, 1) := by decide +kernel
theorem dX4_takesOut_173 : decode cX4_takesOut 173 = .ok (.aload_n 0, 1) := by decide +kernel
theorem dX4_takesOut_174 : decode cX4_takesOut 174 = .ok (.getfield 25, 3) := by decide +kernel
theorem dX4_takesOut_177 : decode cX4_takesOut 177 = .ok (.iload 5, 2) := by decide +kernel
theorem dX4_takesOut_179 : decode cX4_takesOut 179 = .ok (.iaload, 1) := by decide +kernel
theorem dX4_takesOut_180 : decode cX4_takesOut 180 = .ok (.isub, 1) := by decide +kernel
theorem dX4_takesOut_181 : decode cX4_takesOut 181 = .ok (.iastore, 1) := by decide +kernel
theorem dX4_takesOut_182 : decode cX4_takesOut 182 = .ok (.iinc 5 1, 3) := by decide +kernel
theorem dX4_takesOut_185 : decode cX4_takesOut 185 = .ok (.goto (-29), 3) := by decide +kernel
theorem dX4_takesOut_188 : decode cX4_takesOut 188 = .ok (.iload_n 3, 1) := by decide +kernel
theorem dX4_takesOut_189 : decode cX4_takesOut 189 = .ok (.ireturn, 1) := by decide +kernel
theorem dX4_isSpoon_0 : decode cX4_isSpoon 0 = .ok (.iload_n 0, 1) := by decide +kernel
theorem dX4_isSpoon_1 : decode cX4_isSpoon 1 = .ok (.i2l, 1) := by decide +kernel
theorem dX4_isSpoon_2 : decode cX4_isSpoon 2 = .ok (.lconst 1, 1) := by decide +kernel
theorem dX4_isSpoon_3 : decode cX4_isSpoon 3 = .ok (.ldc2_w 82, 3) := by decide +kernel
theorem dX4_isSpoon_6 : decode cX4_isSpoon 6 = .ok (.invokestatic 47, 3) := by decide +kernel
theorem dX4_isSpoon_9 : decode cX4_isSpoon 9 = .ok (.ireturn, 1) := by decide +kernel
theorem dX4_spoon_0 : decode cX4_spoon 0 = .ok (.iload_n 1, 1) := by decide +kernel
theorem dX4_spoon_1 : decode cX4_spoon 1 = .ok (.invokestatic 84, 3) := by decide +kernel
theorem dX4_spoon_4 : decode cX4_spoon 4 = .ok (.ifCond .eq 11, 3) := by decide +kernel
theorem dX4_spoon_7 : decode cX4_spoon 7 = .ok (.aload_n 0, 1) := by decide +kernel
theorem dX4_spoon_8 : decode cX4_spoon 8 = .ok (.iload_n 1, 1) := by decide +kernel
theorem dX4_spoon_9 : decode cX4_spoon 9 = .ok (.invokevirtual 87, 3) := by decide +kernel
theorem dX4_spoon_12 : decode cX4_spoon 12 = .ok (.goto 9, 3) := by decide +kernel
theorem dX4_spoon_15 : decode cX4_spoon 15 = .ok (.aload_n 0, 1) := by decide +kernel
theorem dX4_spoon_16 : decode cX4_spoon 16 = .ok (.ldc 44, 2) := by decide +kernel
theorem dX4_spoon_18 : decode cX4_spoon 18 = .ok (.invokevirtual 64, 3) := by decide +kernel
theorem dX4_spoon_21 : decode cX4_spoon 21 = .ok (.ireturn, 1) := by decide +kernel
theorem dX4_spoonOf_0 : decode cX4_spoonOf 0 = .ok (.iload_n 1, 1) := by decide +kernel
theorem dX4_spoonOf_1 : decode cX4_spoonOf 1 = .ok (.invokestatic 61, 3) := by decide +kernel
theorem dX4_spoonOf_4 : decode cX4_spoonOf 4 = .ok (.ifCond .eq 10, 3) := by decide +kernel
theorem dX4_spoonOf_7 : decode cX4_spoonOf 7 = .ok (.iload_n 2, 1) := by decide +kernel
theorem dX4_spoonOf_8 : decode cX4_spoonOf 8 = .ok (.invokestatic 84, 3) := by decide +kernel
theorem dX4_spoonOf_11 : decode cX4_spoonOf 11 = .ok (.ifCond .ne 10, 3) := by decide +kernel
theorem dX4_spoonOf_14 : decode cX4_spoonOf 14 = .ok (.aload_n 0, 1) := by decide +kernel
theorem dX4_spoonOf_15 : decode cX4_spoonOf 15 = .ok (.ldc 44, 2) := by decide +kernel
theorem dX4_spoonOf_17 : decode cX4_spoonOf 17 = .ok (.invokevirtual 64, 3) := by decide +kernel
theorem dX4_spoonOf_20 : decode cX4_spoonOf 20 = .ok (.ireturn, 1) := by decide +kernel
theorem dX4_spoonOf_21 : decode cX4_spoonOf 21 = .ok (.aload_n 0, 1) := by decide +kernel
theorem dX4_spoonOf_22 : decode cX4_spoonOf 22 = .ok (.invokevirtual 90, 3) := by decide +kernel
theorem dX4_spoonOf_25 : decode cX4_spoonOf 25 = .ok (.aload_n 0, 1) := by decide +kernel
theorem dX4_spoonOf_26 : decode cX4_spoonOf 26 = .ok (.iload_n 2, 1) := by decide +kernel
theorem dX4_spoonOf_27 : decode cX4_spoonOf 27 = .ok (.invokevirtual 87, 3) := by decide +kernel
theorem dX4_spoonOf_30 : decode cX4_spoonOf 30 = .ok (.istore_n 3, 1) := by decide +kernel
theorem dX4_spoonOf_31 : decode cX4_spoonOf 31 = .ok (.aload_n 0, 1) := by decide +kernel
theorem dX4_spoonOf_32 : decode cX4_spoonOf 32 = .ok (.aload_n 0, 1) := by decide +kernel
theorem dX4_spoonOf_33 : decode cX4_spoonOf 33 = .ok (.getfield 25, 3) := by decide +kernel
theorem dX4_spoonOf_36 : decode cX4_spoonOf 36 = .ok (.iload_n 1, 1) := by decide +kernel
theorem dX4_spoonOf_37 : decode cX4_spoonOf 37 = .ok (.iaload, 1) := by decide +kernel
theorem dX4_spoonOf_38 : decode cX4_spoonOf 38 = .ok (.invokevirtual 93, 3) := by decide +kernel
theorem dX4_spoonOf_41 : decode cX4_spoonOf 41 = .ok (.ireturn, 1) := by decide +kernel
theorem dX4_adds_0 : decode cX4_adds 0 = .ok (.aload_n 0, 1) := by decide +kernel
theorem dX4_adds_1 : decode cX4_adds 1 = .ok (.getfield 7, 3) := by decide +kernel
theorem dX4_adds_4 : decode cX4_adds 4 = .ok (.iconst 0, 1) := by decide +kernel
theorem dX4_adds_5 : decode cX4_adds 5 = .ok (.iaload, 1) := by decide +kernel
theorem dX4_adds_6 : decode cX4_adds 6 = .ok (.istore_n 2, 1) := by decide +kernel
theorem dX4_adds_7 : decode cX4_adds 7 = .ok (.aload_n 0, 1) := by decide +kernel
theorem dX4_adds_8 : decode cX4_adds 8 = .ok (.getfield 7, 3) := by decide +kernel
theorem dX4_adds_11 : decode cX4_adds 11 = .ok (.iload_n 2, 1) := by decide +kernel
theorem dX4_adds_12 : decode cX4_adds 12 = .ok (.iconst 0, 1) := by decide +kernel
theorem dX4_adds_13 : decode cX4_adds 13 = .ok (.invokestatic 57, 3) := by decide +kernel
theorem dX4_adds_16 : decode cX4_adds 16 = .ok (.iload_n 1, 1) := by decide +kernel
theorem dX4_adds_17 : decode cX4_adds 17 = .ok (.iastore, 1) := by decide +kernel
theorem dX4_adds_18 : decode cX4_adds 18 = .ok (.aload_n 0, 1) := by decide +kernel
theorem dX4_adds_19 : decode cX4_adds 19 = .ok (.getfield 7, 3) := by decide +kernel
theorem dX4_adds_22 : decode cX4_adds 22 = .ok (.iload_n 2, 1) := by decide +kernel
theorem dX4_adds_23 : decode cX4_adds 23 = .ok (.iconst 1, 1) := by decide +kernel
theorem dX4_adds_24 : decode cX4_adds 24 = .ok (.invokestatic 57, 3) := by decide +kernel
theorem dX4_adds_27 : decode cX4_adds 27 = .ok (.iconst 1, 1) := by decide +kernel
theorem dX4_adds_28 : decode cX4_adds 28 = .ok (.iastore, 1) := by decide +kernel
theorem dX4_adds_29 : decode cX4_adds 29 = .ok (.aload_n 0, 1) := by decide +kernel
theorem dX4_adds_30 : decode cX4_adds 30 = .ok (.getfield 7, 3) := by decide +kernel
theorem dX4_adds_33 : decode cX4_adds 33 = .ok (.iload_n 2, 1) := by decide +kernel
theorem dX4_adds_34 : decode cX4_adds 34 = .ok (.iconst 2, 1) := by decide +kernel
theorem dX4_adds_35 : decode cX4_adds 35 = .ok (.invokestatic 57, 3) := by decide +kernel
theorem dX4_adds_38 : decode cX4_adds 38 = .ok (.bipush 100, 2) := by decide +kernel
theorem dX4_adds_40 : decode cX4_adds 40 = .ok (.iastore, 1) := by decide +kernel
theorem dX4_adds_41 : decode cX4_adds 41 = .ok (.aload_n 0, 1) := by decide +kernel
theorem dX4_adds_42 : decode cX4_adds 42 = .ok (.getfield 7, 3) := by decide +kernel
theorem dX4_adds_45 : decode cX4_adds 45 = .ok (.iload_n 2, 1) := by decide +kernel
theorem dX4_adds_46 : decode cX4_adds 46 = .ok (.iconst 3, 1) := by decide +kernel
theorem dX4_adds_47 : decode cX4_adds 47 = .ok (.invokestatic 57, 3) := by decide +kernel
theorem dX4_adds_50 : decode cX4_adds 50 = .ok (.iconst 5, 1) := by decide +kernel
theorem dX4_adds_51 : decode cX4_adds 51 = .ok (.iastore, 1) := by decide +kernel
theorem dX4_adds_52 : decode cX4_adds 52 = .ok (.aload_n 0, 1) := by decide +kernel
theorem dX4_adds_53 : decode cX4_adds 53 = .ok (.getfield 7, 3) := by decide +kernel
theorem dX4_adds_56 : decode cX4_adds 56 = .ok (.iconst 0, 1) := by decide +kernel
theorem dX4_adds_57 : decode cX4_adds 57 = .ok (.dup2, 1) := by decide +kernel
theorem dX4_adds_58 : decode cX4_adds 58 = .ok (.iaload, 1) := by decide +kernel
theorem dX4_adds_59 : decode cX4_adds 59 = .ok (.iconst 1, 1) := by decide +kernel
theorem dX4_adds_60 : decode cX4_adds 60 = .ok (.iadd, 1) := by decide +kernel
theorem dX4_adds_61 : decode cX4_adds 61 = .ok (.iastore, 1) := by decide +kernel
theorem dX4_adds_62 : decode cX4_adds 62 = .ok (.iload_n 2, 1) := by decide +kernel
theorem dX4_adds_63 : decode cX4_adds 63 = .ok (.ireturn, 1) := by decide +kernel
theorem dX4_cook_0 : decode cX4_cook 0 = .ok (.iload_n 1, 1) := by decide +kernel
theorem dX4_cook_1 : decode cX4_cook 1 = .ok (.invokestatic 96, 3) := by decide +kernel
theorem dX4_cook_4 : decode cX4_cook 4 = .ok (.ifCond .ne 10, 3) := by decide +kernel
theorem dX4_cook_7 : decode cX4_cook 7 = .ok (.aload_n 0, 1) := by decide +kernel
theorem dX4_cook_8 : decode cX4_cook 8 = .ok (.ldc 44, 2) := by decide +kernel
theorem dX4_cook_10 : decode cX4_cook 10 = .ok (.invokevirtual 64, 3) := by decide +kernel
theorem dX4_cook_13 : decode cX4_cook 13 = .ok (.ireturn, 1) := by decide +kernel
theorem dX4_cook_14 : decode cX4_cook 14 = .ok (.aload_n 0, 1) := by decide +kernel
theorem dX4_cook_15 : decode cX4_cook 15 = .ok (.getfield 7, 3) := by decide +kernel
theorem dX4_cook_18 : decode cX4_cook 18 = .ok (.iconst 0, 1) := by decide +kernel
theorem dX4_cook_19 : decode cX4_cook 19 = .ok (.iaload, 1) := by decide +kernel
theorem dX4_cook_20 : decode cX4_cook 20 = .ok (.bipush 8, 2) := by decide +kernel
theorem dX4_cook_22 : decode cX4_cook 22 = .ok (.if_icmp .ne 12, 3) := by decide +kernel
theorem dX4_cook_25 : decode cX4_cook 25 = .ok (.aload_n 0, 1) := by decide +kernel
theorem dX4_cook_26 : decode cX4_cook 26 = .ok (.ldc 75, 2) := by decide +kernel
theorem dX4_cook_28 : decode cX4_cook 28 = .ok (.invokevirtual 64, 3) := by decide +kernel
theorem dX4_cook_31 : decode cX4_cook 31 = .ok (.goto 8, 3) := by decide +kernel
theorem dX4_cook_34 : decode cX4_cook 34 = .ok (.aload_n 0, 1) := by decide +kernel
theorem dX4_cook_35 : decode cX4_cook 35 = .ok (.iload_n 1, 1) := by decide +kernel
theorem dX4_cook_36 : decode cX4_cook 36 = .ok (.invokevirtual 99, 3) := by decide +kernel
theorem dX4_cook_39 : decode cX4_cook 39 = .ok (.ireturn, 1) := by decide +kernel
theorem dX4_wants_0 : decode cX4_wants 0 = .ok (.aload_n 0, 1) := by decide +kernel
theorem dX4_wants_1 : decode cX4_wants 1 = .ok (.iload_n 1, 1) := by decide +kernel
theorem dX4_wants_2 : decode cX4_wants 2 = .ok (.iconst 2, 1) := by decide +kernel
theorem dX4_wants_3 : decode cX4_wants 3 = .ok (.invokevirtual 102, 3) := by decide +kernel
theorem dX4_wants_6 : decode cX4_wants 6 = .ok (.istore_n 2, 1) := by decide +kernel
theorem dX4_wants_7 : decode cX4_wants 7 = .ok (.aload_n 0, 1) := by decide +kernel
theorem dX4_wants_8 : decode cX4_wants 8 = .ok (.iload_n 1, 1) := by decide +kernel
theorem dX4_wants_9 : decode cX4_wants 9 = .ok (.iconst 0, 1) := by decide +kernel
theorem dX4_wants_10 : decode cX4_wants 10 = .ok (.invokevirtual 102, 3) := by decide +kernel
theorem dX4_wants_13 : decode cX4_wants 13 = .ok (.tableswitch 71 1 5 #[35, 39, 71, 44, 64], 35) := by decide +kernel
theorem dX4_wants_48 : decode cX4_wants 48 = .ok (.iload_n 2, 1) := by decide +kernel
theorem dX4_wants_49 : decode cX4_wants 49 = .ok (.iconst 2, 1) := by decide +kernel
theorem dX4_wants_50 : decode cX4_wants 50 = .ok (.idiv, 1) := by decide +kernel
theorem dX4_wants_51 : decode cX4_wants 51 = .ok (.ireturn, 1) := by decide +kernel
theorem dX4_wants_52 : decode cX4_wants 52 = .ok (.iload_n 2, 1) := by decide +kernel
theorem dX4_wants_53 : decode cX4_wants 53 = .ok (.bipush 50, 2) := by decide +kernel
theorem dX4_wants_55 : decode cX4_wants 55 = .ok (.iadd, 1) := by decide +kernel
theorem dX4_wants_56 : decode cX4_wants 56 = .ok (.ireturn, 1) := by decide +kernel
theorem dX4_wants_57 : decode cX4_wants 57 = .ok (.aload_n 0, 1) := by decide +kernel
theorem dX4_wants_58 : decode cX4_wants 58 = .ok (.getfield 7, 3) := by decide +kernel
theorem dX4_wants_61 : decode cX4_wants 61 = .ok (.iconst 1, 1) := by decide +kernel
theorem dX4_wants_62 : decode cX4_wants 62 = .ok (.iaload, 1) := by decide +kernel
theorem dX4_wants_63 : decode cX4_wants 63 = .ok (.bipush 7, 2) := by decide +kernel
theorem dX4_wants_65 : decode cX4_wants 65 = .ok (.irem, 1) := by decide +kernel
theorem dX4_wants_66 : decode cX4_wants 66 = .ok (.ifCond .ne 7, 3) := by decide +kernel
theorem dX4_wants_69 : decode cX4_wants 69 = .ok (.iconst 0, 1) := by decide +kernel
theorem dX4_wants_70 : decode cX4_wants 70 = .ok (.goto 6, 3) := by decide +kernel
theorem dX4_wants_73 : decode cX4_wants 73 = .ok (.iload_n 2, 1) := by decide +kernel
theorem dX4_wants_74 : decode cX4_wants 74 = .ok (.iconst 2, 1) := by decide +kernel
theorem dX4_wants_75 : decode cX4_wants 75 = .ok (.idiv, 1) := by decide +kernel
theorem dX4_wants_76 : decode cX4_wants 76 = .ok (.ireturn, 1) := by decide +kernel
theorem dX4_wants_77 : decode cX4_wants 77 = .ok (.iconst 2, 1) := by decide +kernel
theorem dX4_wants_78 : decode cX4_wants 78 = .ok (.iload_n 2, 1) := by decide +kernel
theorem dX4_wants_79 : decode cX4_wants 79 = .ok (.bipush 50, 2) := by decide +kernel
theorem dX4_wants_81 : decode cX4_wants 81 = .ok (.iadd, 1) := by decide +kernel
theorem dX4_wants_82 : decode cX4_wants 82 = .ok (.imul, 1) := by decide +kernel
theorem dX4_wants_83 : decode cX4_wants 83 = .ok (.ireturn, 1) := by decide +kernel
theorem dX4_wants_84 : decode cX4_wants 84 = .ok (.iload_n 2, 1) := by decide +kernel
theorem dX4_wants_85 : decode cX4_wants 85 = .ok (.ireturn, 1) := by decide +kernel
theorem dX4_takesOf_0 : decode cX4_takesOf 0 = .ok (.aload_n 0, 1) := by decide +kernel
theorem dX4_takesOf_1 : decode cX4_takesOf 1 = .ok (.invokevirtual 70, 3) := by decide +kernel
theorem dX4_takesOf_4 : decode cX4_takesOf 4 = .ok (.istore_n 2, 1) := by decide +kernel
theorem dX4_takesOf_5 : decode cX4_takesOf 5 = .ok (.aload_n 0, 1) := by decide +kernel
theorem dX4_takesOf_6 : decode cX4_takesOf 6 = .ok (.iload_n 1, 1) := by decide +kernel
theorem dX4_takesOf_7 : decode cX4_takesOf 7 = .ok (.invokevirtual 105, 3) := by decide +kernel
theorem dX4_takesOf_10 : decode cX4_takesOf 10 = .ok (.iload_n 2, 1) := by decide +kernel
theorem dX4_takesOf_11 : decode cX4_takesOf 11 = .ok (.if_icmp .ge 11, 3) := by decide +kernel
theorem dX4_takesOf_14 : decode cX4_takesOf 14 = .ok (.aload_n 0, 1) := by decide +kernel
theorem dX4_takesOf_15 : decode cX4_takesOf 15 = .ok (.iload_n 1, 1) := by decide +kernel
theorem dX4_takesOf_16 : decode cX4_takesOf 16 = .ok (.invokevirtual 105, 3) := by decide +kernel
theorem dX4_takesOf_19 : decode cX4_takesOf 19 = .ok (.goto 4, 3) := by decide +kernel
theorem dX4_takesOf_22 : decode cX4_takesOf 22 = .ok (.iload_n 2, 1) := by decide +kernel
theorem dX4_takesOf_23 : decode cX4_takesOf 23 = .ok (.ireturn, 1) := by decide +kernel
theorem dX4_atLeastNothing_0 : decode cX4_atLeastNothing 0 = .ok (.iload_n 0, 1) := by decide +kernel
theorem dX4_atLeastNothing_1 : decode cX4_atLeastNothing 1 = .ok (.ifCond .ge 7, 3) := by decide +kernel
theorem dX4_atLeastNothing_4 : decode cX4_atLeastNothing 4 = .ok (.iconst 0, 1) := by decide +kernel
theorem dX4_atLeastNothing_5 : decode cX4_atLeastNothing 5 = .ok (.goto 4, 3) := by decide +kernel
theorem dX4_atLeastNothing_8 : decode cX4_atLeastNothing 8 = .ok (.iload_n 0, 1) := by decide +kernel
theorem dX4_atLeastNothing_9 : decode cX4_atLeastNothing 9 = .ok (.ireturn, 1) := by decide +kernel
theorem dX4_putsOf_0 : decode cX4_putsOf 0 = .ok (.iload_n 2, 1) := by decide +kernel
theorem dX4_putsOf_1 : decode cX4_putsOf 1 = .ok (.aload_n 0, 1) := by decide +kernel
theorem dX4_putsOf_2 : decode cX4_putsOf 2 = .ok (.iload_n 1, 1) := by decide +kernel
theorem dX4_putsOf_3 : decode cX4_putsOf 3 = .ok (.iconst 3, 1) := by decide +kernel
theorem dX4_putsOf_4 : decode cX4_putsOf 4 = .ok (.invokevirtual 102, 3) := by decide +kernel
theorem dX4_putsOf_7 : decode cX4_putsOf 7 = .ok (.iadd, 1) := by decide +kernel
theorem dX4_putsOf_8 : decode cX4_putsOf 8 = .ok (.istore_n 3, 1) := by decide +kernel
theorem dX4_putsOf_9 : decode cX4_putsOf 9 = .ok (.aload_n 0, 1) := by decide +kernel
theorem dX4_putsOf_10 : decode cX4_putsOf 10 = .ok (.iload_n 1, 1) := by decide +kernel
theorem dX4_putsOf_11 : decode cX4_putsOf 11 = .ok (.iconst 0, 1) := by decide +kernel
theorem dX4_putsOf_12 : decode cX4_putsOf 12 = .ok (.invokevirtual 102, 3) := by decide +kernel
theorem dX4_putsOf_15 : decode cX4_putsOf 15 = .ok (.tableswitch 59 2 5 #[29, 36, 38, 45], 29) := by decide +kernel
theorem dX4_putsOf_44 : decode cX4_putsOf 44 = .ok (.iload_n 3, 1) := by decide +kernel
theorem dX4_putsOf_45 : decode cX4_putsOf 45 = .ok (.iload_n 2, 1) := by decide +kernel
theorem dX4_putsOf_46 : decode cX4_putsOf 46 = .ok (.bipush 10, 2) := by decide +kernel
theorem dX4_putsOf_48 : decode cX4_putsOf 48 = .ok (.idiv, 1) := by decide +kernel
theorem dX4_putsOf_49 : decode cX4_putsOf 49 = .ok (.iadd, 1) := by decide +kernel
theorem dX4_putsOf_50 : decode cX4_putsOf 50 = .ok (.ireturn, 1) := by decide +kernel
theorem dX4_putsOf_51 : decode cX4_putsOf 51 = .ok (.iload_n 2, 1) := by decide +kernel
theorem dX4_putsOf_52 : decode cX4_putsOf 52 = .ok (.ireturn, 1) := by decide +kernel
theorem dX4_putsOf_53 : decode cX4_putsOf 53 = .ok (.iload_n 3, 1) := by decide +kernel
theorem dX4_putsOf_54 : decode cX4_putsOf 54 = .ok (.iconst 5, 1) := by decide +kernel
theorem dX4_putsOf_55 : decode cX4_putsOf 55 = .ok (.isub, 1) := by decide +kernel
theorem dX4_putsOf_56 : decode cX4_putsOf 56 = .ok (.invokestatic 108, 3) := by decide +kernel
theorem dX4_putsOf_59 : decode cX4_putsOf 59 = .ok (.ireturn, 1) := by decide +kernel
theorem dX4_putsOf_60 : decode cX4_putsOf 60 = .ok (.iload_n 3, 1) := by decide +kernel
theorem dX4_putsOf_61 : decode cX4_putsOf 61 = .ok (.iload_n 2, 1) := by decide +kernel
theorem dX4_putsOf_62 : decode cX4_putsOf 62 = .ok (.bipush 10, 2) := by decide +kernel
theorem dX4_putsOf_64 : decode cX4_putsOf 64 = .ok (.idiv, 1) := by decide +kernel
theorem dX4_putsOf_65 : decode cX4_putsOf 65 = .ok (.iadd, 1) := by decide +kernel
theorem dX4_putsOf_66 : decode cX4_putsOf 66 = .ok (.iload_n 2, 1) := by decide +kernel
theorem dX4_putsOf_67 : decode cX4_putsOf 67 = .ok (.iconst 2, 1) := by decide +kernel
theorem dX4_putsOf_68 : decode cX4_putsOf 68 = .ok (.idiv, 1) := by decide +kernel
theorem dX4_putsOf_69 : decode cX4_putsOf 69 = .ok (.isub, 1) := by decide +kernel
theorem dX4_putsOf_70 : decode cX4_putsOf 70 = .ok (.invokestatic 108, 3) := by decide +kernel
theorem dX4_putsOf_73 : decode cX4_putsOf 73 = .ok (.ireturn, 1) := by decide +kernel
theorem dX4_putsOf_74 : decode cX4_putsOf 74 = .ok (.iload_n 3, 1) := by decide +kernel
theorem dX4_putsOf_75 : decode cX4_putsOf 75 = .ok (.ireturn, 1) := by decide +kernel
theorem dX4_whatOf_0 : decode cX4_whatOf 0 = .ok (.aload_n 0, 1) := by decide +kernel
theorem dX4_whatOf_1 : decode cX4_whatOf 1 = .ok (.iload_n 1, 1) := by decide +kernel
theorem dX4_whatOf_2 : decode cX4_whatOf 2 = .ok (.iconst 0, 1) := by decide +kernel
theorem dX4_whatOf_3 : decode cX4_whatOf 3 = .ok (.invokevirtual 102, 3) := by decide +kernel
theorem dX4_whatOf_6 : decode cX4_whatOf 6 = .ok (.tableswitch 72 3 5 #[26, 28, 50], 26) := by decide +kernel
theorem dX4_whatOf_32 : decode cX4_whatOf 32 = .ok (.iconst 0, 1) := by decide +kernel
theorem dX4_whatOf_33 : decode cX4_whatOf 33 = .ok (.ireturn, 1) := by decide +kernel
theorem dX4_whatOf_34 : decode cX4_whatOf 34 = .ok (.aload_n 0, 1) := by decide +kernel
theorem dX4_whatOf_35 : decode cX4_whatOf 35 = .ok (.getfield 7, 3) := by decide +kernel
theorem dX4_whatOf_38 : decode cX4_whatOf 38 = .ok (.iconst 1, 1) := by decide +kernel
theorem dX4_whatOf_39 : decode cX4_whatOf 39 = .ok (.iaload, 1) := by decide +kernel
theorem dX4_whatOf_40 : decode cX4_whatOf 40 = .ok (.iconst 5, 1) := by decide +kernel
theorem dX4_whatOf_41 : decode cX4_whatOf 41 = .ok (.irem, 1) := by decide +kernel
theorem dX4_whatOf_42 : decode cX4_whatOf 42 = .ok (.ifCond .ne 7, 3) := by decide +kernel
theorem dX4_whatOf_45 : decode cX4_whatOf 45 = .ok (.iconst 3, 1) := by decide +kernel
theorem dX4_whatOf_46 : decode cX4_whatOf 46 = .ok (.goto 9, 3) := by decide +kernel
theorem dX4_whatOf_49 : decode cX4_whatOf 49 = .ok (.aload_n 0, 1) := by decide +kernel
theorem dX4_whatOf_50 : decode cX4_whatOf 50 = .ok (.iload_n 1, 1) := by decide +kernel
theorem dX4_whatOf_51 : decode cX4_whatOf 51 = .ok (.iconst 1, 1) := by decide +kernel
theorem dX4_whatOf_52 : decode cX4_whatOf 52 = .ok (.invokevirtual 102, 3) := by decide +kernel
theorem dX4_whatOf_55 : decode cX4_whatOf 55 = .ok (.ireturn, 1) := by decide +kernel
theorem dX4_whatOf_56 : decode cX4_whatOf 56 = .ok (.aload_n 0, 1) := by decide +kernel
theorem dX4_whatOf_57 : decode cX4_whatOf 57 = .ok (.invokevirtual 70, 3) := by decide +kernel
theorem dX4_whatOf_60 : decode cX4_whatOf 60 = .ok (.sipush 500, 3) := by decide +kernel
theorem dX4_whatOf_63 : decode cX4_whatOf 63 = .ok (.if_icmp .ge 8, 3) := by decide +kernel
theorem dX4_whatOf_66 : decode cX4_whatOf 66 = .ok (.bipush 11, 2) := by decide +kernel
theorem dX4_whatOf_68 : decode cX4_whatOf 68 = .ok (.goto 9, 3) := by decide +kernel
theorem dX4_whatOf_71 : decode cX4_whatOf 71 = .ok (.aload_n 0, 1) := by decide +kernel
theorem dX4_whatOf_72 : decode cX4_whatOf 72 = .ok (.iload_n 1, 1) := by decide +kernel
theorem dX4_whatOf_73 : decode cX4_whatOf 73 = .ok (.iconst 1, 1) := by decide +kernel
theorem dX4_whatOf_74 : decode cX4_whatOf 74 = .ok (.invokevirtual 102, 3) := by decide +kernel
theorem dX4_whatOf_77 : decode cX4_whatOf 77 = .ok (.ireturn, 1) := by decide +kernel
theorem dX4_whatOf_78 : decode cX4_whatOf 78 = .ok (.aload_n 0, 1) := by decide +kernel
theorem dX4_whatOf_79 : decode cX4_whatOf 79 = .ok (.iload_n 1, 1) := by decide +kernel
theorem dX4_whatOf_80 : decode cX4_whatOf 80 = .ok (.iconst 1, 1) := by decide +kernel
theorem dX4_whatOf_81 : decode cX4_whatOf 81 = .ok (.invokevirtual 102, 3) := by decide +kernel
theorem dX4_whatOf_84 : decode cX4_whatOf 84 = .ok (.ireturn, 1) := by decide +kernel
theorem dX4_of_0 : decode cX4_of 0 = .ok (.aload_n 0, 1) := by decide +kernel
theorem dX4_of_1 : decode cX4_of 1 = .ok (.iload_n 1, 1) := by decide +kernel
theorem dX4_of_2 : decode cX4_of 2 = .ok (.invokevirtual 51, 3) := by decide +kernel
theorem dX4_of_5 : decode cX4_of 5 = .ok (.ifCond .eq 15, 3) := by decide +kernel
theorem dX4_of_8 : decode cX4_of 8 = .ok (.iload_n 2, 1) := by decide +kernel
theorem dX4_of_9 : decode cX4_of 9 = .ok (.i2l, 1) := by decide +kernel
theorem dX4_of_10 : decode cX4_of 10 = .ok (.lconst 0, 1) := by decide +kernel
theorem dX4_of_11 : decode cX4_of 11 = .ok (.ldc2_w 111, 3) := by decide +kernel
theorem dX4_of_14 : decode cX4_of 14 = .ok (.invokestatic 47, 3) := by decide +kernel
theorem dX4_of_17 : decode cX4_of 17 = .ok (.ifCond .ne 10, 3) := by decide +kernel
theorem dX4_of_20 : decode cX4_of 20 = .ok (.aload_n 0, 1) := by decide +kernel
theorem dX4_of_21 : decode cX4_of 21 = .ok (.ldc 44, 2) := by decide +kernel
theorem dX4_of_23 : decode cX4_of 23 = .ok (.invokevirtual 64, 3) := by decide +kernel
theorem dX4_of_26 : decode cX4_of 26 = .ok (.ireturn, 1) := by decide +kernel
theorem dX4_of_27 : decode cX4_of 27 = .ok (.iload_n 2, 1) := by decide +kernel
theorem dX4_of_28 : decode cX4_of 28 = .ok (.tableswitch 51 4 6 #[28, 34, 45], 28) := by decide +kernel
theorem dX4_of_56 : decode cX4_of 56 = .ok (.aload_n 0, 1) := by decide +kernel
theorem dX4_of_57 : decode cX4_of 57 = .ok (.iload_n 1, 1) := by decide +kernel
theorem dX4_of_58 : decode cX4_of 58 = .ok (.invokevirtual 113, 3) := by decide +kernel
theorem dX4_of_61 : decode cX4_of 61 = .ok (.ireturn, 1) := by decide +kernel
theorem dX4_of_62 : decode cX4_of 62 = .ok (.aload_n 0, 1) := by decide +kernel
theorem dX4_of_63 : decode cX4_of 63 = .ok (.iload_n 1, 1) := by decide +kernel
theorem dX4_of_64 : decode cX4_of 64 = .ok (.aload_n 0, 1) := by decide +kernel
theorem dX4_of_65 : decode cX4_of 65 = .ok (.iload_n 1, 1) := by decide +kernel
theorem dX4_of_66 : decode cX4_of 66 = .ok (.invokevirtual 113, 3) := by decide +kernel
theorem dX4_of_69 : decode cX4_of 69 = .ok (.invokevirtual 116, 3) := by decide +kernel
theorem dX4_of_72 : decode cX4_of 72 = .ok (.ireturn, 1) := by decide +kernel
theorem dX4_of_73 : decode cX4_of 73 = .ok (.aload_n 0, 1) := by decide +kernel
theorem dX4_of_74 : decode cX4_of 74 = .ok (.iload_n 1, 1) := by decide +kernel
theorem dX4_of_75 : decode cX4_of 75 = .ok (.invokevirtual 119, 3) := by decide +kernel
theorem dX4_of_78 : decode cX4_of 78 = .ok (.ireturn, 1) := by decide +kernel
theorem dX4_of_79 : decode cX4_of 79 = .ok (.aload_n 0, 1) := by decide +kernel
theorem dX4_of_80 : decode cX4_of 80 = .ok (.iload_n 1, 1) := by decide +kernel
theorem dX4_of_81 : decode cX4_of 81 = .ok (.iload_n 2, 1) := by decide +kernel
theorem dX4_of_82 : decode cX4_of 82 = .ok (.invokevirtual 102, 3) := by decide +kernel
theorem dX4_of_85 : decode cX4_of 85 = .ok (.ireturn, 1) := by decide +kernel
theorem dX4_set_0 : decode cX4_set 0 = .ok (.iload_n 2, 1) := by decide +kernel
theorem dX4_set_1 : decode cX4_set 1 = .ok (.i2l, 1) := by decide +kernel
theorem dX4_set_2 : decode cX4_set 2 = .ok (.lconst 1, 1) := by decide +kernel
theorem dX4_set_3 : decode cX4_set 3 = .ok (.ldc2_w 122, 3) := by decide +kernel
theorem dX4_set_6 : decode cX4_set 6 = .ok (.invokestatic 47, 3) := by decide +kernel
theorem dX4_set_9 : decode cX4_set 9 = .ok (.ifCond .eq 41, 3) := by decide +kernel
theorem dX4_set_12 : decode cX4_set 12 = .ok (.iload_n 3, 1) := by decide +kernel
theorem dX4_set_13 : decode cX4_set 13 = .ok (.i2l, 1) := by decide +kernel
theorem dX4_set_14 : decode cX4_set 14 = .ok (.lconst 0, 1) := by decide +kernel
theorem dX4_set_15 : decode cX4_set 15 = .ok (.iload_n 2, 1) := by decide +kernel
theorem dX4_set_16 : decode cX4_set 16 = .ok (.iconst 1, 1) := by decide +kernel
theorem dX4_set_17 : decode cX4_set 17 = .ok (.if_icmp .ne 9, 3) := by decide +kernel
theorem dX4_set_20 : decode cX4_set 20 = .ok (.ldc2_w 45, 3) := by decide +kernel
theorem dX4_set_23 : decode cX4_set 23 = .ok (.goto 17, 3) := by decide +kernel
theorem dX4_set_26 : decode cX4_set 26 = .ok (.iload_n 2, 1) := by decide +kernel
theorem dX4_set_27 : decode cX4_set 27 = .ok (.iconst 2, 1) := by decide +kernel
theorem dX4_set_28 : decode cX4_set 28 = .ok (.if_icmp .ne 9, 3) := by decide +kernel
theorem dX4_set_31 : decode cX4_set 31 = .ok (.ldc2_w 82, 3) := by decide +kernel
theorem dX4_set_34 : decode cX4_set 34 = .ok (.goto 6, 3) := by decide +kernel
theorem dX4_set_37 : decode cX4_set 37 = .ok (.ldc2_w 124, 3) := by decide +kernel
theorem dX4_set_40 : decode cX4_set 40 = .ok (.invokestatic 47, 3) := by decide +kernel
theorem dX4_set_43 : decode cX4_set 43 = .ok (.ifCond .eq 7, 3) := by decide +kernel
theorem dX4_set_46 : decode cX4_set 46 = .ok (.iconst 1, 1) := by decide +kernel
theorem dX4_set_47 : decode cX4_set 47 = .ok (.goto 4, 3) := by decide +kernel
theorem dX4_set_50 : decode cX4_set 50 = .ok (.iconst 0, 1) := by decide +kernel
theorem dX4_set_51 : decode cX4_set 51 = .ok (.istore 4, 2) := by decide +kernel
theorem dX4_set_53 : decode cX4_set 53 = .ok (.aload_n 0, 1) := by decide +kernel
theorem dX4_set_54 : decode cX4_set 54 = .ok (.iload_n 1, 1) := by decide +kernel
theorem dX4_set_55 : decode cX4_set 55 = .ok (.invokevirtual 51, 3) := by decide +kernel
theorem dX4_set_58 : decode cX4_set 58 = .ok (.ifCond .eq 21, 3) := by decide +kernel
theorem dX4_set_61 : decode cX4_set 61 = .ok (.iload 4, 2) := by decide +kernel
theorem dX4_set_63 : decode cX4_set 63 = .ok (.ifCond .eq 16, 3) := by decide +kernel
theorem dX4_set_66 : decode cX4_set 66 = .ok (.aload_n 0, 1) := by decide +kernel
theorem dX4_set_67 : decode cX4_set 67 = .ok (.iload_n 1, 1) := by decide +kernel
theorem dX4_set_68 : decode cX4_set 68 = .ok (.iload_n 2, 1) := by decide +kernel
theorem dX4_set_69 : decode cX4_set 69 = .ok (.invokestatic 57, 3) := by decide +kernel
theorem dX4_set_72 : decode cX4_set 72 = .ok (.iload_n 3, 1) := by decide +kernel
theorem dX4_set_73 : decode cX4_set 73 = .ok (.invokevirtual 76, 3) := by decide +kernel
theorem dX4_set_76 : decode cX4_set 76 = .ok (.goto 9, 3) := by decide +kernel
theorem dX4_set_79 : decode cX4_set 79 = .ok (.aload_n 0, 1) := by decide +kernel
theorem dX4_set_80 : decode cX4_set 80 = .ok (.ldc 44, 2) := by decide +kernel
theorem dX4_set_82 : decode cX4_set 82 = .ok (.invokevirtual 64, 3) := by decide +kernel
theorem dX4_set_85 : decode cX4_set 85 = .ok (.ireturn, 1) := by decide +kernel
theorem dX4_turn_0 : decode cX4_turn 0 = .ok (.aload_n 0, 1) := by decide +kernel
theorem dX4_turn_1 : decode cX4_turn 1 = .ok (.iload_n 1, 1) := by decide +kernel
theorem dX4_turn_2 : decode cX4_turn 2 = .ok (.invokevirtual 51, 3) := by decide +kernel
theorem dX4_turn_5 : decode cX4_turn 5 = .ok (.ifCond .eq 23, 3) := by decide +kernel
theorem dX4_turn_8 : decode cX4_turn 8 = .ok (.iload_n 2, 1) := by decide +kernel
theorem dX4_turn_9 : decode cX4_turn 9 = .ok (.invokestatic 96, 3) := by decide +kernel
theorem dX4_turn_12 : decode cX4_turn 12 = .ok (.ifCond .eq 16, 3) := by decide +kernel
theorem dX4_turn_15 : decode cX4_turn 15 = .ok (.aload_n 0, 1) := by decide +kernel
theorem dX4_turn_16 : decode cX4_turn 16 = .ok (.iload_n 1, 1) := by decide +kernel
theorem dX4_turn_17 : decode cX4_turn 17 = .ok (.iconst 0, 1) := by decide +kernel
theorem dX4_turn_18 : decode cX4_turn 18 = .ok (.invokestatic 57, 3) := by decide +kernel
theorem dX4_turn_21 : decode cX4_turn 21 = .ok (.iload_n 2, 1) := by decide +kernel
theorem dX4_turn_22 : decode cX4_turn 22 = .ok (.invokevirtual 76, 3) := by decide +kernel
theorem dX4_turn_25 : decode cX4_turn 25 = .ok (.goto 9, 3) := by decide +kernel
theorem dX4_turn_28 : decode cX4_turn 28 = .ok (.aload_n 0, 1) := by decide +kernel
theorem dX4_turn_29 : decode cX4_turn 29 = .ok (.ldc 44, 2) := by decide +kernel
theorem dX4_turn_31 : decode cX4_turn 31 = .ok (.invokevirtual 64, 3) := by decide +kernel
theorem dX4_turn_34 : decode cX4_turn 34 = .ok (.ireturn, 1) := by decide +kernel
theorem dX4_isUnder_0 : decode cX4_isUnder 0 = .ok (.iload_n 1, 1) := by decide +kernel
theorem dX4_isUnder_1 : decode cX4_isUnder 1 = .ok (.ifCond .eq 20, 3) := by decide +kernel
theorem dX4_isUnder_4 : decode cX4_isUnder 4 = .ok (.iload_n 0, 1) := by decide +kernel
theorem dX4_isUnder_5 : decode cX4_isUnder 5 = .ok (.iload_n 1, 1) := by decide +kernel
theorem dX4_isUnder_6 : decode cX4_isUnder 6 = .ok (.if_icmp .eq 15, 3) := by decide +kernel
theorem dX4_isUnder_9 : decode cX4_isUnder 9 = .ok (.iload_n 0, 1) := by decide +kernel
theorem dX4_isUnder_10 : decode cX4_isUnder 10 = .ok (.iconst 3, 1) := by decide +kernel
theorem dX4_isUnder_11 : decode cX4_isUnder 11 = .ok (.if_icmp .le 14, 3) := by decide +kernel
theorem dX4_isUnder_14 : decode cX4_isUnder 14 = .ok (.iload_n 0, 1) := by decide +kernel
theorem dX4_isUnder_15 : decode cX4_isUnder 15 = .ok (.iconst 3, 1) := by decide +kernel
theorem dX4_isUnder_16 : decode cX4_isUnder 16 = .ok (.isub, 1) := by decide +kernel
theorem dX4_isUnder_17 : decode cX4_isUnder 17 = .ok (.iload_n 1, 1) := by decide +kernel
theorem dX4_isUnder_18 : decode cX4_isUnder 18 = .ok (.if_icmp .ne 7, 3) := by decide +kernel
theorem dX4_isUnder_21 : decode cX4_isUnder 21 = .ok (.iconst 1, 1) := by decide +kernel
theorem dX4_isUnder_22 : decode cX4_isUnder 22 = .ok (.goto 4, 3) := by decide +kernel
theorem dX4_isUnder_25 : decode cX4_isUnder 25 = .ok (.iconst 0, 1) := by decide +kernel
theorem dX4_isUnder_26 : decode cX4_isUnder 26 = .ok (.ireturn, 1) := by decide +kernel
theorem dX4_as_0 : decode cX4_as 0 = .ok (.aload_n 0, 1) := by decide +kernel
theorem dX4_as_1 : decode cX4_as 1 = .ok (.iload_n 1, 1) := by decide +kernel
theorem dX4_as_2 : decode cX4_as 2 = .ok (.invokevirtual 51, 3) := by decide +kernel
theorem dX4_as_5 : decode cX4_as 5 = .ok (.ifCond .eq 10, 3) := by decide +kernel
theorem dX4_as_8 : decode cX4_as 8 = .ok (.iload_n 2, 1) := by decide +kernel
theorem dX4_as_9 : decode cX4_as 9 = .ok (.invokestatic 96, 3) := by decide +kernel
theorem dX4_as_12 : decode cX4_as 12 = .ok (.ifCond .ne 10, 3) := by decide +kernel
theorem dX4_as_15 : decode cX4_as 15 = .ok (.aload_n 0, 1) := by decide +kernel
theorem dX4_as_16 : decode cX4_as 16 = .ok (.ldc 44, 2) := by decide +kernel
theorem dX4_as_18 : decode cX4_as 18 = .ok (.invokevirtual 64, 3) := by decide +kernel
theorem dX4_as_21 : decode cX4_as 21 = .ok (.ireturn, 1) := by decide +kernel
theorem dX4_as_22 : decode cX4_as 22 = .ok (.aload_n 0, 1) := by decide +kernel
theorem dX4_as_23 : decode cX4_as 23 = .ok (.iload_n 1, 1) := by decide +kernel
theorem dX4_as_24 : decode cX4_as 24 = .ok (.iconst 0, 1) := by decide +kernel
theorem dX4_as_25 : decode cX4_as 25 = .ok (.invokevirtual 102, 3) := by decide +kernel
theorem dX4_as_28 : decode cX4_as 28 = .ok (.iload_n 2, 1) := by decide +kernel
theorem dX4_as_29 : decode cX4_as 29 = .ok (.invokestatic 126, 3) := by decide +kernel
theorem dX4_as_32 : decode cX4_as 32 = .ok (.ifCond .eq 12, 3) := by decide +kernel
theorem dX4_as_35 : decode cX4_as 35 = .ok (.aload_n 0, 1) := by decide +kernel
theorem dX4_as_36 : decode cX4_as 36 = .ok (.iload_n 1, 1) := by decide +kernel
theorem dX4_as_37 : decode cX4_as 37 = .ok (.iconst 2, 1) := by decide +kernel
theorem dX4_as_38 : decode cX4_as 38 = .ok (.invokevirtual 102, 3) := by decide +kernel
theorem dX4_as_41 : decode cX4_as 41 = .ok (.goto 9, 3) := by decide +kernel
theorem dX4_as_44 : decode cX4_as 44 = .ok (.aload_n 0, 1) := by decide +kernel
theorem dX4_as_45 : decode cX4_as 45 = .ok (.ldc 130, 2) := by decide +kernel
theorem dX4_as_47 : decode cX4_as 47 = .ok (.invokevirtual 64, 3) := by decide +kernel
theorem dX4_as_50 : decode cX4_as 50 = .ok (.ireturn, 1) := by decide +kernel
theorem dX4_swaps_0 : decode cX4_swaps 0 = .ok (.iconst 0, 1) := by decide +kernel
theorem dX4_swaps_1 : decode cX4_swaps 1 = .ok (.istore_n 3, 1) := by decide +kernel
theorem dX4_swaps_2 : decode cX4_swaps 2 = .ok (.iload_n 3, 1) := by decide +kernel
theorem dX4_swaps_3 : decode cX4_swaps 3 = .ok (.iconst 4, 1) := by decide +kernel
theorem dX4_swaps_4 : decode cX4_swaps 4 = .ok (.if_icmp .ge 38, 3) := by decide +kernel
theorem dX4_swaps_7 : decode cX4_swaps 7 = .ok (.aload_n 0, 1) := by decide +kernel
theorem dX4_swaps_8 : decode cX4_swaps 8 = .ok (.iload_n 1, 1) := by decide +kernel
theorem dX4_swaps_9 : decode cX4_swaps 9 = .ok (.iload_n 3, 1) := by decide +kernel
theorem dX4_swaps_10 : decode cX4_swaps 10 = .ok (.invokestatic 57, 3) := by decide +kernel
theorem dX4_swaps_13 : decode cX4_swaps 13 = .ok (.aload_n 0, 1) := by decide +kernel
theorem dX4_swaps_14 : decode cX4_swaps 14 = .ok (.iload_n 2, 1) := by decide +kernel
theorem dX4_swaps_15 : decode cX4_swaps 15 = .ok (.iload_n 3, 1) := by decide +kernel
theorem dX4_swaps_16 : decode cX4_swaps 16 = .ok (.invokevirtual 102, 3) := by decide +kernel
theorem dX4_swaps_19 : decode cX4_swaps 19 = .ok (.invokevirtual 76, 3) := by decide +kernel
theorem dX4_swaps_22 : decode cX4_swaps 22 = .ok (.istore 4, 2) := by decide +kernel
theorem dX4_swaps_24 : decode cX4_swaps 24 = .ok (.aload_n 0, 1) := by decide +kernel
theorem dX4_swaps_25 : decode cX4_swaps 25 = .ok (.getfield 7, 3) := by decide +kernel
theorem dX4_swaps_28 : decode cX4_swaps 28 = .ok (.iload_n 2, 1) := by decide +kernel
theorem dX4_swaps_29 : decode cX4_swaps 29 = .ok (.iload_n 3, 1) := by decide +kernel
theorem dX4_swaps_30 : decode cX4_swaps 30 = .ok (.invokestatic 57, 3) := by decide +kernel
theorem dX4_swaps_33 : decode cX4_swaps 33 = .ok (.iload 4, 2) := by decide +kernel
theorem dX4_swaps_35 : decode cX4_swaps 35 = .ok (.iastore, 1) := by decide +kernel
theorem dX4_swaps_36 : decode cX4_swaps 36 = .ok (.iinc 3 1, 3) := by decide +kernel
theorem dX4_swaps_39 : decode cX4_swaps 39 = .ok (.goto (-37), 3) := by decide +kernel
theorem dX4_swaps_42 : decode cX4_swaps 42 = .ok (.return_, 1) := by decide +kernel
theorem dX4_swap_0 : decode cX4_swap 0 = .ok (.aload_n 0, 1) := by decide +kernel
theorem dX4_swap_1 : decode cX4_swap 1 = .ok (.iload_n 1, 1) := by decide +kernel
theorem dX4_swap_2 : decode cX4_swap 2 = .ok (.iload_n 2, 1) := by decide +kernel
theorem dX4_swap_3 : decode cX4_swap 3 = .ok (.invokevirtual 131, 3) := by decide +kernel
theorem dX4_swap_6 : decode cX4_swap 6 = .ok (.ifCond .ne 10, 3) := by decide +kernel
theorem dX4_swap_9 : decode cX4_swap 9 = .ok (.aload_n 0, 1) := by decide +kernel
theorem dX4_swap_10 : decode cX4_swap 10 = .ok (.ldc 44, 2) := by decide +kernel
theorem dX4_swap_12 : decode cX4_swap 12 = .ok (.invokevirtual 64, 3) := by decide +kernel
theorem dX4_swap_15 : decode cX4_swap 15 = .ok (.ireturn, 1) := by decide +kernel
theorem dX4_swap_16 : decode cX4_swap 16 = .ok (.aload_n 0, 1) := by decide +kernel
theorem dX4_swap_17 : decode cX4_swap 17 = .ok (.iload_n 1, 1) := by decide +kernel
theorem dX4_swap_18 : decode cX4_swap 18 = .ok (.iload_n 2, 1) := by decide +kernel
theorem dX4_swap_19 : decode cX4_swap 19 = .ok (.invokevirtual 134, 3) := by decide +kernel
theorem dX4_swap_22 : decode cX4_swap 22 = .ok (.iconst 1, 1) := by decide +kernel
theorem dX4_swap_23 : decode cX4_swap 23 = .ok (.ireturn, 1) := by decide +kernel
theorem dX4_year_0 : decode cX4_year 0 = .ok (.aload_n 0, 1) := by decide +kernel
theorem dX4_year_1 : decode cX4_year 1 = .ok (.getfield 7, 3) := by decide +kernel
theorem dX4_year_4 : decode cX4_year 4 = .ok (.iconst 0, 1) := by decide +kernel
theorem dX4_year_5 : decode cX4_year 5 = .ok (.iaload, 1) := by decide +kernel
theorem dX4_year_6 : decode cX4_year 6 = .ok (.ifCond .le 75, 3) := by decide +kernel
theorem dX4_year_9 : decode cX4_year 9 = .ok (.aload_n 0, 1) := by decide +kernel
theorem dX4_year_10 : decode cX4_year 10 = .ok (.getfield 7, 3) := by decide +kernel
theorem dX4_year_13 : decode cX4_year 13 = .ok (.iconst 1, 1) := by decide +kernel
theorem dX4_year_14 : decode cX4_year 14 = .ok (.iaload, 1) := by decide +kernel
theorem dX4_year_15 : decode cX4_year 15 = .ok (.aload_n 0, 1) := by decide +kernel
theorem dX4_year_16 : decode cX4_year 16 = .ok (.getfield 7, 3) := by decide +kernel
theorem dX4_year_19 : decode cX4_year 19 = .ok (.iconst 0, 1) := by decide +kernel
theorem dX4_year_20 : decode cX4_year 20 = .ok (.iaload, 1) := by decide +kernel
theorem dX4_year_21 : decode cX4_year 21 = .ok (.irem, 1) := by decide +kernel
theorem dX4_year_22 : decode cX4_year 22 = .ok (.istore_n 1, 1) := by decide +kernel
theorem dX4_year_23 : decode cX4_year 23 = .ok (.iconst 2, 1) := by decide +kernel
theorem dX4_year_24 : decode cX4_year 24 = .ok (.aload_n 0, 1) := by decide +kernel
theorem dX4_year_25 : decode cX4_year 25 = .ok (.iload_n 1, 1) := by decide +kernel
theorem dX4_year_26 : decode cX4_year 26 = .ok (.invokevirtual 119, 3) := by decide +kernel
theorem dX4_year_29 : decode cX4_year 29 = .ok (.iadd, 1) := by decide +kernel
theorem dX4_year_30 : decode cX4_year 30 = .ok (.istore_n 2, 1) := by decide +kernel
theorem dX4_year_31 : decode cX4_year 31 = .ok (.aload_n 0, 1) := by decide +kernel
theorem dX4_year_32 : decode cX4_year 32 = .ok (.aload_n 0, 1) := by decide +kernel
theorem dX4_year_33 : decode cX4_year 33 = .ok (.iload_n 1, 1) := by decide +kernel
theorem dX4_year_34 : decode cX4_year 34 = .ok (.invokevirtual 105, 3) := by decide +kernel
theorem dX4_year_37 : decode cX4_year 37 = .ok (.invokevirtual 87, 3) := by decide +kernel
theorem dX4_year_40 : decode cX4_year 40 = .ok (.istore_n 3, 1) := by decide +kernel
theorem dX4_year_41 : decode cX4_year 41 = .ok (.aload_n 0, 1) := by decide +kernel
theorem dX4_year_42 : decode cX4_year 42 = .ok (.iload_n 1, 1) := by decide +kernel
theorem dX4_year_43 : decode cX4_year 43 = .ok (.iload_n 3, 1) := by decide +kernel
theorem dX4_year_44 : decode cX4_year 44 = .ok (.invokevirtual 116, 3) := by decide +kernel
theorem dX4_year_47 : decode cX4_year 47 = .ok (.istore 4, 2) := by decide +kernel
theorem dX4_year_49 : decode cX4_year 49 = .ok (.ldc 74, 2) := by decide +kernel
theorem dX4_year_51 : decode cX4_year 51 = .ok (.aload_n 0, 1) := by decide +kernel
theorem dX4_year_52 : decode cX4_year 52 = .ok (.invokevirtual 70, 3) := by decide +kernel
theorem dX4_year_55 : decode cX4_year 55 = .ok (.isub, 1) := by decide +kernel
theorem dX4_year_56 : decode cX4_year 56 = .ok (.istore 5, 2) := by decide +kernel
theorem dX4_year_58 : decode cX4_year 58 = .ok (.aload_n 0, 1) := by decide +kernel
theorem dX4_year_59 : decode cX4_year 59 = .ok (.getfield 7, 3) := by decide +kernel
theorem dX4_year_62 : decode cX4_year 62 = .ok (.iload_n 2, 1) := by decide +kernel
theorem dX4_year_63 : decode cX4_year 63 = .ok (.dup2, 1) := by decide +kernel
theorem dX4_year_64 : decode cX4_year 64 = .ok (.iaload, 1) := by decide +kernel
theorem dX4_year_65 : decode cX4_year 65 = .ok (.iload 4, 2) := by decide +kernel
theorem dX4_year_67 : decode cX4_year 67 = .ok (.iload 5, 2) := by decide +kernel
theorem dX4_year_69 : decode cX4_year 69 = .ok (.if_icmp .ge 8, 3) := by decide +kernel
theorem dX4_year_72 : decode cX4_year 72 = .ok (.iload 4, 2) := by decide +kernel
theorem dX4_year_74 : decode cX4_year 74 = .ok (.goto 5, 3) := by decide +kernel
theorem dX4_year_77 : decode cX4_year 77 = .ok (.iload 5, 2) := by decide +kernel
theorem dX4_year_79 : decode cX4_year 79 = .ok (.iadd, 1) := by decide +kernel
theorem dX4_year_80 : decode cX4_year 80 = .ok (.iastore, 1) := by decide +kernel
theorem dX4_year_81 : decode cX4_year 81 = .ok (.aload_n 0, 1) := by decide +kernel
theorem dX4_year_82 : decode cX4_year 82 = .ok (.getfield 7, 3) := by decide +kernel
theorem dX4_year_85 : decode cX4_year 85 = .ok (.iconst 1, 1) := by decide +kernel
theorem dX4_year_86 : decode cX4_year 86 = .ok (.dup2, 1) := by decide +kernel
theorem dX4_year_87 : decode cX4_year 87 = .ok (.iaload, 1) := by decide +kernel
theorem dX4_year_88 : decode cX4_year 88 = .ok (.iconst 1, 1) := by decide +kernel
theorem dX4_year_89 : decode cX4_year 89 = .ok (.iadd, 1) := by decide +kernel
theorem dX4_year_90 : decode cX4_year 90 = .ok (.iastore, 1) := by decide +kernel
theorem dX4_year_91 : decode cX4_year 91 = .ok (.return_, 1) := by decide +kernel
theorem dX4_yearsGo_0 : decode cX4_yearsGo 0 = .ok (.iconst 0, 1) := by decide +kernel
theorem dX4_yearsGo_1 : decode cX4_yearsGo 1 = .ok (.istore_n 2, 1) := by decide +kernel
theorem dX4_yearsGo_2 : decode cX4_yearsGo 2 = .ok (.iload_n 2, 1) := by decide +kernel
theorem dX4_yearsGo_3 : decode cX4_yearsGo 3 = .ok (.iload_n 1, 1) := by decide +kernel
theorem dX4_yearsGo_4 : decode cX4_yearsGo 4 = .ok (.if_icmp .ge 13, 3) := by decide +kernel
theorem dX4_yearsGo_7 : decode cX4_yearsGo 7 = .ok (.aload_n 0, 1) := by decide +kernel
theorem dX4_yearsGo_8 : decode cX4_yearsGo 8 = .ok (.invokevirtual 138, 3) := by decide +kernel
theorem dX4_yearsGo_11 : decode cX4_yearsGo 11 = .ok (.iinc 2 1, 3) := by decide +kernel
theorem dX4_yearsGo_14 : decode cX4_yearsGo 14 = .ok (.goto (-12), 3) := by decide +kernel
theorem dX4_yearsGo_17 : decode cX4_yearsGo 17 = .ok (.return_, 1) := by decide +kernel
theorem dX4_years_0 : decode cX4_years 0 = .ok (.iload_n 1, 1) := by decide +kernel
theorem dX4_years_1 : decode cX4_years 1 = .ok (.i2l, 1) := by decide +kernel
theorem dX4_years_2 : decode cX4_years 2 = .ok (.lconst 1, 1) := by decide +kernel
theorem dX4_years_3 : decode cX4_years 3 = .ok (.ldc2_w 141, 3) := by decide +kernel
theorem dX4_years_6 : decode cX4_years 6 = .ok (.invokestatic 47, 3) := by decide +kernel
theorem dX4_years_9 : decode cX4_years 9 = .ok (.ifCond .ne 10, 3) := by decide +kernel
theorem dX4_years_12 : decode cX4_years 12 = .ok (.aload_n 0, 1) := by decide +kernel
theorem dX4_years_13 : decode cX4_years 13 = .ok (.ldc 44, 2) := by decide +kernel
theorem dX4_years_15 : decode cX4_years 15 = .ok (.invokevirtual 64, 3) := by decide +kernel
theorem dX4_years_18 : decode cX4_years 18 = .ok (.ireturn, 1) := by decide +kernel
theorem dX4_years_19 : decode cX4_years 19 = .ok (.aload_n 0, 1) := by decide +kernel
theorem dX4_years_20 : decode cX4_years 20 = .ok (.getfield 7, 3) := by decide +kernel
theorem dX4_years_23 : decode cX4_years 23 = .ok (.iconst 1, 1) := by decide +kernel
theorem dX4_years_24 : decode cX4_years 24 = .ok (.iaload, 1) := by decide +kernel
theorem dX4_years_25 : decode cX4_years 25 = .ok (.iload_n 1, 1) := by decide +kernel
theorem dX4_years_26 : decode cX4_years 26 = .ok (.iadd, 1) := by decide +kernel
theorem dX4_years_27 : decode cX4_years 27 = .ok (.sipush 9999, 3) := by decide +kernel
theorem dX4_years_30 : decode cX4_years 30 = .ok (.if_icmp .le 10, 3) := by decide +kernel
theorem dX4_years_33 : decode cX4_years 33 = .ok (.aload_n 0, 1) := by decide +kernel
theorem dX4_years_34 : decode cX4_years 34 = .ok (.ldc 143, 2) := by decide +kernel
theorem dX4_years_36 : decode cX4_years 36 = .ok (.invokevirtual 64, 3) := by decide +kernel
theorem dX4_years_39 : decode cX4_years 39 = .ok (.ireturn, 1) := by decide +kernel
theorem dX4_years_40 : decode cX4_years 40 = .ok (.aload_n 0, 1) := by decide +kernel
theorem dX4_years_41 : decode cX4_years 41 = .ok (.iload_n 1, 1) := by decide +kernel
theorem dX4_years_42 : decode cX4_years 42 = .ok (.invokevirtual 144, 3) := by decide +kernel
theorem dX4_years_45 : decode cX4_years 45 = .ok (.aload_n 0, 1) := by decide +kernel
theorem dX4_years_46 : decode cX4_years 46 = .ok (.invokevirtual 70, 3) := by decide +kernel
theorem dX4_years_49 : decode cX4_years 49 = .ok (.ireturn, 1) := by decide +kernel
theorem dX4_present_0 : decode cX4_present 0 = .ok (.iconst 0, 1) := by decide +kernel
theorem dX4_present_1 : decode cX4_present 1 = .ok (.istore_n 1, 1) := by decide +kernel
theorem dX4_present_2 : decode cX4_present 2 = .ok (.iconst 0, 1) := by decide +kernel
theorem dX4_present_3 : decode cX4_present 3 = .ok (.istore_n 2, 1) := by decide +kernel
theorem dX4_present_4 : decode cX4_present 4 = .ok (.iload_n 2, 1) := by decide +kernel
theorem dX4_present_5 : decode cX4_present 5 = .ok (.bipush 12, 2) := by decide +kernel
theorem dX4_present_7 : decode cX4_present 7 = .ok (.if_icmp .ge 30, 3) := by decide +kernel
theorem dX4_present_10 : decode cX4_present 10 = .ok (.iload_n 1, 1) := by decide +kernel
theorem dX4_present_11 : decode cX4_present 11 = .ok (.aload_n 0, 1) := by decide +kernel
theorem dX4_present_12 : decode cX4_present 12 = .ok (.getfield 7, 3) := by decide +kernel
theorem dX4_present_15 : decode cX4_present 15 = .ok (.iconst 2, 1) := by decide +kernel
theorem dX4_present_16 : decode cX4_present 16 = .ok (.iload_n 2, 1) := by decide +kernel
theorem dX4_present_17 : decode cX4_present 17 = .ok (.iadd, 1) := by decide +kernel
theorem dX4_present_18 : decode cX4_present 18 = .ok (.iaload, 1) := by decide +kernel
theorem dX4_present_19 : decode cX4_present 19 = .ok (.ifCond .le 9, 3) := by decide +kernel
theorem dX4_present_22 : decode cX4_present 22 = .ok (.iconst 1, 1) := by decide +kernel
theorem dX4_present_23 : decode cX4_present 23 = .ok (.iload_n 2, 1) := by decide +kernel
theorem dX4_present_24 : decode cX4_present 24 = .ok (.ishl, 1) := by decide +kernel
theorem dX4_present_25 : decode cX4_present 25 = .ok (.goto 4, 3) := by decide +kernel
theorem dX4_present_28 : decode cX4_present 28 = .ok (.iconst 0, 1) := by decide +kernel
theorem dX4_present_29 : decode cX4_present 29 = .ok (.ior, 1) := by decide +kernel
theorem dX4_present_30 : decode cX4_present 30 = .ok (.istore_n 1, 1) := by decide +kernel
theorem dX4_present_31 : decode cX4_present 31 = .ok (.iinc 2 1, 3) := by decide +kernel
theorem dX4_present_34 : decode cX4_present 34 = .ok (.goto (-30), 3) := by decide +kernel
theorem dX4_present_37 : decode cX4_present 37 = .ok (.iload_n 1, 1) := by decide +kernel
theorem dX4_present_38 : decode cX4_present 38 = .ok (.ireturn, 1) := by decide +kernel
theorem dX4_mostPart_0 : decode cX4_mostPart 0 = .ok (.iconst 0, 1) := by decide +kernel
theorem dX4_mostPart_1 : decode cX4_mostPart 1 = .ok (.istore_n 1, 1) := by decide +kernel
theorem dX4_mostPart_2 : decode cX4_mostPart 2 = .ok (.iconst 1, 1) := by decide +kernel
theorem dX4_mostPart_3 : decode cX4_mostPart 3 = .ok (.istore_n 2, 1) := by decide +kernel
theorem dX4_mostPart_4 : decode cX4_mostPart 4 = .ok (.iload_n 2, 1) := by decide +kernel
theorem dX4_mostPart_5 : decode cX4_mostPart 5 = .ok (.bipush 12, 2) := by decide +kernel
theorem dX4_mostPart_7 : decode cX4_mostPart 7 = .ok (.if_icmp .ge 34, 3) := by decide +kernel
theorem dX4_mostPart_10 : decode cX4_mostPart 10 = .ok (.aload_n 0, 1) := by decide +kernel
theorem dX4_mostPart_11 : decode cX4_mostPart 11 = .ok (.getfield 7, 3) := by decide +kernel
theorem dX4_mostPart_14 : decode cX4_mostPart 14 = .ok (.iconst 2, 1) := by decide +kernel
theorem dX4_mostPart_15 : decode cX4_mostPart 15 = .ok (.iload_n 2, 1) := by decide +kernel
theorem dX4_mostPart_16 : decode cX4_mostPart 16 = .ok (.iadd, 1) := by decide +kernel
theorem dX4_mostPart_17 : decode cX4_mostPart 17 = .ok (.iaload, 1) := by decide +kernel
theorem dX4_mostPart_18 : decode cX4_mostPart 18 = .ok (.aload_n 0, 1) := by decide +kernel
theorem dX4_mostPart_19 : decode cX4_mostPart 19 = .ok (.getfield 7, 3) := by decide +kernel
theorem dX4_mostPart_22 : decode cX4_mostPart 22 = .ok (.iconst 2, 1) := by decide +kernel
theorem dX4_mostPart_23 : decode cX4_mostPart 23 = .ok (.iload_n 1, 1) := by decide +kernel
theorem dX4_mostPart_24 : decode cX4_mostPart 24 = .ok (.iadd, 1) := by decide +kernel
theorem dX4_mostPart_25 : decode cX4_mostPart 25 = .ok (.iaload, 1) := by decide +kernel
theorem dX4_mostPart_26 : decode cX4_mostPart 26 = .ok (.if_icmp .le 7, 3) := by decide +kernel
theorem dX4_mostPart_29 : decode cX4_mostPart 29 = .ok (.iload_n 2, 1) := by decide +kernel
theorem dX4_mostPart_30 : decode cX4_mostPart 30 = .ok (.goto 4, 3) := by decide +kernel
theorem dX4_mostPart_33 : decode cX4_mostPart 33 = .ok (.iload_n 1, 1) := by decide +kernel
theorem dX4_mostPart_34 : decode cX4_mostPart 34 = .ok (.istore_n 1, 1) := by decide +kernel
theorem dX4_mostPart_35 : decode cX4_mostPart 35 = .ok (.iinc 2 1, 3) := by decide +kernel
theorem dX4_mostPart_38 : decode cX4_mostPart 38 = .ok (.goto (-34), 3) := by decide +kernel
theorem dX4_mostPart_41 : decode cX4_mostPart 41 = .ok (.iload_n 1, 1) := by decide +kernel
theorem dX4_mostPart_42 : decode cX4_mostPart 42 = .ok (.ireturn, 1) := by decide +kernel
theorem dX4_now_0 : decode cX4_now 0 = .ok (.iload_n 1, 1) := by decide +kernel
theorem dX4_now_1 : decode cX4_now 1 = .ok (.tableswitch 101 0 5 #[39, 46, 51, 78, 83, 96], 39) := by decide +kernel
theorem dX4_now_40 : decode cX4_now 40 = .ok (.aload_n 0, 1) := by decide +kernel
theorem dX4_now_41 : decode cX4_now 41 = .ok (.getfield 7, 3) := by decide +kernel
theorem dX4_now_44 : decode cX4_now 44 = .ok (.iconst 1, 1) := by decide +kernel
theorem dX4_now_45 : decode cX4_now 45 = .ok (.iaload, 1) := by decide +kernel
theorem dX4_now_46 : decode cX4_now 46 = .ok (.ireturn, 1) := by decide +kernel
theorem dX4_now_47 : decode cX4_now 47 = .ok (.aload_n 0, 1) := by decide +kernel
theorem dX4_now_48 : decode cX4_now 48 = .ok (.invokevirtual 70, 3) := by decide +kernel
theorem dX4_now_51 : decode cX4_now 51 = .ok (.ireturn, 1) := by decide +kernel
theorem dX4_now_52 : decode cX4_now 52 = .ok (.aload_n 0, 1) := by decide +kernel
theorem dX4_now_53 : decode cX4_now 53 = .ok (.getfield 7, 3) := by decide +kernel
theorem dX4_now_56 : decode cX4_now 56 = .ok (.iconst 0, 1) := by decide +kernel
theorem dX4_now_57 : decode cX4_now 57 = .ok (.iaload, 1) := by decide +kernel
theorem dX4_now_58 : decode cX4_now 58 = .ok (.ifCond .ne 7, 3) := by decide +kernel
theorem dX4_now_61 : decode cX4_now 61 = .ok (.iconst (-1), 1) := by decide +kernel
theorem dX4_now_62 : decode cX4_now 62 = .ok (.goto 16, 3) := by decide +kernel
theorem dX4_now_65 : decode cX4_now 65 = .ok (.aload_n 0, 1) := by decide +kernel
theorem dX4_now_66 : decode cX4_now 66 = .ok (.getfield 7, 3) := by decide +kernel
theorem dX4_now_69 : decode cX4_now 69 = .ok (.iconst 1, 1) := by decide +kernel
theorem dX4_now_70 : decode cX4_now 70 = .ok (.iaload, 1) := by decide +kernel
theorem dX4_now_71 : decode cX4_now 71 = .ok (.aload_n 0, 1) := by decide +kernel
theorem dX4_now_72 : decode cX4_now 72 = .ok (.getfield 7, 3) := by decide +kernel
theorem dX4_now_75 : decode cX4_now 75 = .ok (.iconst 0, 1) := by decide +kernel
theorem dX4_now_76 : decode cX4_now 76 = .ok (.iaload, 1) := by decide +kernel
theorem dX4_now_77 : decode cX4_now 77 = .ok (.irem, 1) := by decide +kernel
theorem dX4_now_78 : decode cX4_now 78 = .ok (.ireturn, 1) := by decide +kernel
theorem dX4_now_79 : decode cX4_now 79 = .ok (.aload_n 0, 1) := by decide +kernel
theorem dX4_now_80 : decode cX4_now 80 = .ok (.invokevirtual 148, 3) := by decide +kernel
theorem dX4_now_83 : decode cX4_now 83 = .ok (.ireturn, 1) := by decide +kernel
theorem dX4_now_84 : decode cX4_now 84 = .ok (.aload_n 0, 1) := by decide +kernel
theorem dX4_now_85 : decode cX4_now 85 = .ok (.invokevirtual 151, 3) := by decide +kernel
theorem dX4_now_88 : decode cX4_now 88 = .ok (.ifCond .eq 7, 3) := by decide +kernel
theorem dX4_now_91 : decode cX4_now 91 = .ok (.iconst 1, 1) := by decide +kernel
theorem dX4_now_92 : decode cX4_now 92 = .ok (.goto 4, 3) := by decide +kernel
theorem dX4_now_95 : decode cX4_now 95 = .ok (.iconst 0, 1) := by decide +kernel
theorem dX4_now_96 : decode cX4_now 96 = .ok (.ireturn, 1) := by decide +kernel
theorem dX4_now_97 : decode cX4_now 97 = .ok (.aload_n 0, 1) := by decide +kernel
theorem dX4_now_98 : decode cX4_now 98 = .ok (.invokevirtual 155, 3) := by decide +kernel
theorem dX4_now_101 : decode cX4_now 101 = .ok (.ireturn, 1) := by decide +kernel
theorem dX4_now_102 : decode cX4_now 102 = .ok (.aload_n 0, 1) := by decide +kernel
theorem dX4_now_103 : decode cX4_now 103 = .ok (.ldc 44, 2) := by decide +kernel
theorem dX4_now_105 : decode cX4_now 105 = .ok (.invokevirtual 64, 3) := by decide +kernel
theorem dX4_now_108 : decode cX4_now 108 = .ok (.ireturn, 1) := by decide +kernel
theorem dX4_on_0 : decode cX4_on 0 = .ok (.iload_n 1, 1) := by decide +kernel
theorem dX4_on_1 : decode cX4_on 1 = .ok (.invokestatic 61, 3) := by decide +kernel
theorem dX4_on_4 : decode cX4_on 4 = .ok (.ifCond .eq 25, 3) := by decide +kernel
theorem dX4_on_7 : decode cX4_on 7 = .ok (.iload_n 2, 1) := by decide +kernel
theorem dX4_on_8 : decode cX4_on 8 = .ok (.i2l, 1) := by decide +kernel
theorem dX4_on_9 : decode cX4_on 9 = .ok (.lconst 0, 1) := by decide +kernel
theorem dX4_on_10 : decode cX4_on 10 = .ok (.ldc2_w 141, 3) := by decide +kernel
theorem dX4_on_13 : decode cX4_on 13 = .ok (.invokestatic 47, 3) := by decide +kernel
theorem dX4_on_16 : decode cX4_on 16 = .ok (.ifCond .eq 13, 3) := by decide +kernel
theorem dX4_on_19 : decode cX4_on 19 = .ok (.iload_n 3, 1) := by decide +kernel
theorem dX4_on_20 : decode cX4_on 20 = .ok (.i2l, 1) := by decide +kernel
theorem dX4_on_21 : decode cX4_on 21 = .ok (.lconst 0, 1) := by decide +kernel
theorem dX4_on_22 : decode cX4_on 22 = .ok (.lconst 1, 1) := by decide +kernel
theorem dX4_on_23 : decode cX4_on 23 = .ok (.invokestatic 47, 3) := by decide +kernel
theorem dX4_on_26 : decode cX4_on 26 = .ok (.ifCond .ne 10, 3) := by decide +kernel
theorem dX4_on_29 : decode cX4_on 29 = .ok (.aload_n 0, 1) := by decide +kernel
theorem dX4_on_30 : decode cX4_on 30 = .ok (.ldc 44, 2) := by decide +kernel
theorem dX4_on_32 : decode cX4_on 32 = .ok (.invokevirtual 64, 3) := by decide +kernel
theorem dX4_on_35 : decode cX4_on 35 = .ok (.ireturn, 1) := by decide +kernel
theorem dX4_on_36 : decode cX4_on 36 = .ok (.aload_n 0, 1) := by decide +kernel
theorem dX4_on_37 : decode cX4_on 37 = .ok (.invokevirtual 90, 3) := by decide +kernel
theorem dX4_on_40 : decode cX4_on 40 = .ok (.aload_n 0, 1) := by decide +kernel
theorem dX4_on_41 : decode cX4_on 41 = .ok (.iload_n 2, 1) := by decide +kernel
theorem dX4_on_42 : decode cX4_on 42 = .ok (.invokevirtual 144, 3) := by decide +kernel
theorem dX4_on_45 : decode cX4_on 45 = .ok (.aload_n 0, 1) := by decide +kernel
theorem dX4_on_46 : decode cX4_on 46 = .ok (.iload_n 3, 1) := by decide +kernel
theorem dX4_on_47 : decode cX4_on 47 = .ok (.ifCond .ne 14, 3) := by decide +kernel
theorem dX4_on_50 : decode cX4_on 50 = .ok (.aload_n 0, 1) := by decide +kernel
theorem dX4_on_51 : decode cX4_on 51 = .ok (.getfield 7, 3) := by decide +kernel
theorem dX4_on_54 : decode cX4_on 54 = .ok (.iconst 2, 1) := by decide +kernel
theorem dX4_on_55 : decode cX4_on 55 = .ok (.iload_n 1, 1) := by decide +kernel
theorem dX4_on_56 : decode cX4_on 56 = .ok (.iadd, 1) := by decide +kernel
theorem dX4_on_57 : decode cX4_on 57 = .ok (.iaload, 1) := by decide +kernel
theorem dX4_on_58 : decode cX4_on 58 = .ok (.goto 8, 3) := by decide +kernel
theorem dX4_on_61 : decode cX4_on 61 = .ok (.aload_n 0, 1) := by decide +kernel
theorem dX4_on_62 : decode cX4_on 62 = .ok (.iload_n 1, 1) := by decide +kernel
theorem dX4_on_63 : decode cX4_on 63 = .ok (.invokevirtual 79, 3) := by decide +kernel
theorem dX4_on_66 : decode cX4_on 66 = .ok (.invokevirtual 93, 3) := by decide +kernel
theorem dX4_on_69 : decode cX4_on 69 = .ok (.ireturn, 1) := by decide +kernel
theorem dX4_isSo_0 : decode cX4_isSo 0 = .ok (.iload_n 1, 1) := by decide +kernel
theorem dX4_isSo_1 : decode cX4_isSo 1 = .ok (.ifCond .ne 10, 3) := by decide +kernel
theorem dX4_isSo_4 : decode cX4_isSo 4 = .ok (.aload_n 0, 1) := by decide +kernel
theorem dX4_isSo_5 : decode cX4_isSo 5 = .ok (.invokevirtual 151, 3) := by decide +kernel
theorem dX4_isSo_8 : decode cX4_isSo 8 = .ok (.goto 42, 3) := by decide +kernel
theorem dX4_isSo_11 : decode cX4_isSo 11 = .ok (.iload_n 1, 1) := by decide +kernel
theorem dX4_isSo_12 : decode cX4_isSo 12 = .ok (.iconst 1, 1) := by decide +kernel
theorem dX4_isSo_13 : decode cX4_isSo 13 = .ok (.if_icmp .ne 23, 3) := by decide +kernel
theorem dX4_isSo_16 : decode cX4_isSo 16 = .ok (.aload_n 0, 1) := by decide +kernel
theorem dX4_isSo_17 : decode cX4_isSo 17 = .ok (.getfield 7, 3) := by decide +kernel
theorem dX4_isSo_20 : decode cX4_isSo 20 = .ok (.iconst 2, 1) := by decide +kernel
theorem dX4_isSo_21 : decode cX4_isSo 21 = .ok (.iload_n 2, 1) := by decide +kernel
theorem dX4_isSo_22 : decode cX4_isSo 22 = .ok (.iadd, 1) := by decide +kernel
theorem dX4_isSo_23 : decode cX4_isSo 23 = .ok (.iaload, 1) := by decide +kernel
theorem dX4_isSo_24 : decode cX4_isSo 24 = .ok (.iload_n 3, 1) := by decide +kernel
theorem dX4_isSo_25 : decode cX4_isSo 25 = .ok (.if_icmp .gt 7, 3) := by decide +kernel
theorem dX4_isSo_28 : decode cX4_isSo 28 = .ok (.iconst 1, 1) := by decide +kernel
theorem dX4_isSo_29 : decode cX4_isSo 29 = .ok (.goto 21, 3) := by decide +kernel
theorem dX4_isSo_32 : decode cX4_isSo 32 = .ok (.iconst 0, 1) := by decide +kernel
theorem dX4_isSo_33 : decode cX4_isSo 33 = .ok (.goto 17, 3) := by decide +kernel
theorem dX4_isSo_36 : decode cX4_isSo 36 = .ok (.aload_n 0, 1) := by decide +kernel
theorem dX4_isSo_37 : decode cX4_isSo 37 = .ok (.iload_n 2, 1) := by decide +kernel
theorem dX4_isSo_38 : decode cX4_isSo 38 = .ok (.invokevirtual 79, 3) := by decide +kernel
theorem dX4_isSo_41 : decode cX4_isSo 41 = .ok (.iload_n 3, 1) := by decide +kernel
theorem dX4_isSo_42 : decode cX4_isSo 42 = .ok (.if_icmp .lt 7, 3) := by decide +kernel
theorem dX4_isSo_45 : decode cX4_isSo 45 = .ok (.iconst 1, 1) := by decide +kernel
theorem dX4_isSo_46 : decode cX4_isSo 46 = .ok (.goto 4, 3) := by decide +kernel
theorem dX4_isSo_49 : decode cX4_isSo 49 = .ok (.iconst 0, 1) := by decide +kernel
theorem dX4_isSo_50 : decode cX4_isSo 50 = .ok (.ireturn, 1) := by decide +kernel
theorem dX4_firstSo_0 : decode cX4_firstSo 0 = .ok (.aload_n 0, 1) := by decide +kernel
theorem dX4_firstSo_1 : decode cX4_firstSo 1 = .ok (.invokevirtual 90, 3) := by decide +kernel
theorem dX4_firstSo_4 : decode cX4_firstSo 4 = .ok (.iconst 0, 1) := by decide +kernel
theorem dX4_firstSo_5 : decode cX4_firstSo 5 = .ok (.istore 4, 2) := by decide +kernel
theorem dX4_firstSo_7 : decode cX4_firstSo 7 = .ok (.iload 4, 2) := by decide +kernel
theorem dX4_firstSo_9 : decode cX4_firstSo 9 = .ok (.sipush 200, 3) := by decide +kernel
theorem dX4_firstSo_12 : decode cX4_firstSo 12 = .ok (.if_icmp .gt 23, 3) := by decide +kernel
theorem dX4_firstSo_15 : decode cX4_firstSo 15 = .ok (.aload_n 0, 1) := by decide +kernel
theorem dX4_firstSo_16 : decode cX4_firstSo 16 = .ok (.iload_n 1, 1) := by decide +kernel
theorem dX4_firstSo_17 : decode cX4_firstSo 17 = .ok (.iload_n 2, 1) := by decide +kernel
theorem dX4_firstSo_18 : decode cX4_firstSo 18 = .ok (.iload_n 3, 1) := by decide +kernel
theorem dX4_firstSo_19 : decode cX4_firstSo 19 = .ok (.invokevirtual 158, 3) := by decide +kernel
theorem dX4_firstSo_22 : decode cX4_firstSo 22 = .ok (.ifCond .ne 13, 3) := by decide +kernel
theorem dX4_firstSo_25 : decode cX4_firstSo 25 = .ok (.aload_n 0, 1) := by decide +kernel
theorem dX4_firstSo_26 : decode cX4_firstSo 26 = .ok (.invokevirtual 138, 3) := by decide +kernel
theorem dX4_firstSo_29 : decode cX4_firstSo 29 = .ok (.iinc 4 1, 3) := by decide +kernel
theorem dX4_firstSo_32 : decode cX4_firstSo 32 = .ok (.goto (-25), 3) := by decide +kernel
theorem dX4_firstSo_35 : decode cX4_firstSo 35 = .ok (.aload_n 0, 1) := by decide +kernel
theorem dX4_firstSo_36 : decode cX4_firstSo 36 = .ok (.iload 4, 2) := by decide +kernel
theorem dX4_firstSo_38 : decode cX4_firstSo 38 = .ok (.invokevirtual 93, 3) := by decide +kernel
theorem dX4_firstSo_41 : decode cX4_firstSo 41 = .ok (.istore 5, 2) := by decide +kernel
theorem dX4_firstSo_43 : decode cX4_firstSo 43 = .ok (.iload 5, 2) := by decide +kernel
theorem dX4_firstSo_45 : decode cX4_firstSo 45 = .ok (.sipush 200, 3) := by decide +kernel
theorem dX4_firstSo_48 : decode cX4_firstSo 48 = .ok (.if_icmp .le 12, 3) := by decide +kernel
theorem dX4_firstSo_51 : decode cX4_firstSo 51 = .ok (.aload_n 0, 1) := by decide +kernel
theorem dX4_firstSo_52 : decode cX4_firstSo 52 = .ok (.ldc 162, 2) := by decide +kernel
theorem dX4_firstSo_54 : decode cX4_firstSo 54 = .ok (.invokevirtual 64, 3) := by decide +kernel
theorem dX4_firstSo_57 : decode cX4_firstSo 57 = .ok (.goto 5, 3) := by decide +kernel
theorem dX4_firstSo_60 : decode cX4_firstSo 60 = .ok (.iload 5, 2) := by decide +kernel
theorem dX4_firstSo_62 : decode cX4_firstSo 62 = .ok (.ireturn, 1) := by decide +kernel
theorem dX4_vague_0 : decode cX4_vague 0 = .ok (.aload_n 0, 1) := by decide +kernel
theorem dX4_vague_1 : decode cX4_vague 1 = .ok (.iconst 0, 1) := by decide +kernel
theorem dX4_vague_2 : decode cX4_vague 2 = .ok (.iconst 0, 1) := by decide +kernel
theorem dX4_vague_3 : decode cX4_vague 3 = .ok (.iconst 0, 1) := by decide +kernel
theorem dX4_vague_4 : decode cX4_vague 4 = .ok (.invokevirtual 163, 3) := by decide +kernel
theorem dX4_vague_7 : decode cX4_vague 7 = .ok (.ireturn, 1) := by decide +kernel
theorem dX4_gone_0 : decode cX4_gone 0 = .ok (.iload_n 1, 1) := by decide +kernel
theorem dX4_gone_1 : decode cX4_gone 1 = .ok (.invokestatic 61, 3) := by decide +kernel
theorem dX4_gone_4 : decode cX4_gone 4 = .ok (.ifCond .eq 25, 3) := by decide +kernel
theorem dX4_gone_7 : decode cX4_gone 7 = .ok (.iload_n 2, 1) := by decide +kernel
theorem dX4_gone_8 : decode cX4_gone 8 = .ok (.i2l, 1) := by decide +kernel
theorem dX4_gone_9 : decode cX4_gone 9 = .ok (.lconst 0, 1) := by decide +kernel
theorem dX4_gone_10 : decode cX4_gone 10 = .ok (.ldc2_w 68, 3) := by decide +kernel
theorem dX4_gone_13 : decode cX4_gone 13 = .ok (.invokestatic 47, 3) := by decide +kernel
theorem dX4_gone_16 : decode cX4_gone 16 = .ok (.ifCond .eq 13, 3) := by decide +kernel
theorem dX4_gone_19 : decode cX4_gone 19 = .ok (.aload_n 0, 1) := by decide +kernel
theorem dX4_gone_20 : decode cX4_gone 20 = .ok (.iconst 1, 1) := by decide +kernel
theorem dX4_gone_21 : decode cX4_gone 21 = .ok (.iload_n 1, 1) := by decide +kernel
theorem dX4_gone_22 : decode cX4_gone 22 = .ok (.iload_n 2, 1) := by decide +kernel
theorem dX4_gone_23 : decode cX4_gone 23 = .ok (.invokevirtual 163, 3) := by decide +kernel
theorem dX4_gone_26 : decode cX4_gone 26 = .ok (.goto 9, 3) := by decide +kernel
theorem dX4_gone_29 : decode cX4_gone 29 = .ok (.aload_n 0, 1) := by decide +kernel
theorem dX4_gone_30 : decode cX4_gone 30 = .ok (.ldc 44, 2) := by decide +kernel
theorem dX4_gone_32 : decode cX4_gone 32 = .ok (.invokevirtual 64, 3) := by decide +kernel
theorem dX4_gone_35 : decode cX4_gone 35 = .ok (.ireturn, 1) := by decide +kernel
theorem dX4_strong_0 : decode cX4_strong 0 = .ok (.iload_n 1, 1) := by decide +kernel
theorem dX4_strong_1 : decode cX4_strong 1 = .ok (.invokestatic 61, 3) := by decide +kernel
theorem dX4_strong_4 : decode cX4_strong 4 = .ok (.ifCond .eq 25, 3) := by decide +kernel
theorem dX4_strong_7 : decode cX4_strong 7 = .ok (.iload_n 2, 1) := by decide +kernel
theorem dX4_strong_8 : decode cX4_strong 8 = .ok (.i2l, 1) := by decide +kernel
theorem dX4_strong_9 : decode cX4_strong 9 = .ok (.lconst 0, 1) := by decide +kernel
theorem dX4_strong_10 : decode cX4_strong 10 = .ok (.ldc2_w 167, 3) := by decide +kernel
theorem dX4_strong_13 : decode cX4_strong 13 = .ok (.invokestatic 47, 3) := by decide +kernel
theorem dX4_strong_16 : decode cX4_strong 16 = .ok (.ifCond .eq 13, 3) := by decide +kernel
theorem dX4_strong_19 : decode cX4_strong 19 = .ok (.aload_n 0, 1) := by decide +kernel
theorem dX4_strong_20 : decode cX4_strong 20 = .ok (.iconst 2, 1) := by decide +kernel
theorem dX4_strong_21 : decode cX4_strong 21 = .ok (.iload_n 1, 1) := by decide +kernel
theorem dX4_strong_22 : decode cX4_strong 22 = .ok (.iload_n 2, 1) := by decide +kernel
theorem dX4_strong_23 : decode cX4_strong 23 = .ok (.invokevirtual 163, 3) := by decide +kernel
theorem dX4_strong_26 : decode cX4_strong 26 = .ok (.goto 9, 3) := by decide +kernel
theorem dX4_strong_29 : decode cX4_strong 29 = .ok (.aload_n 0, 1) := by decide +kernel
theorem dX4_strong_30 : decode cX4_strong 30 = .ok (.ldc 44, 2) := by decide +kernel
theorem dX4_strong_32 : decode cX4_strong 32 = .ok (.invokevirtual 64, 3) := by decide +kernel
theorem dX4_strong_35 : decode cX4_strong 35 = .ok (.ireturn, 1) := by decide +kernel
theorem dX4_isSoon_0 : decode cX4_isSoon 0 = .ok (.iload_n 0, 1) := by decide +kernel
theorem dX4_isSoon_1 : decode cX4_isSoon 1 = .ok (.i2l, 1) := by decide +kernel
theorem dX4_isSoon_2 : decode cX4_isSoon 2 = .ok (.lconst 1, 1) := by decide +kernel
theorem dX4_isSoon_3 : decode cX4_isSoon 3 = .ok (.ldc2_w 169, 3) := by decide +kernel
theorem dX4_isSoon_6 : decode cX4_isSoon 6 = .ok (.invokestatic 47, 3) := by decide +kernel
theorem dX4_isSoon_9 : decode cX4_isSoon 9 = .ok (.ireturn, 1) := by decide +kernel
theorem dX4_behind_0 : decode cX4_behind 0 = .ok (.aload_n 0, 1) := by decide +kernel
theorem dX4_behind_1 : decode cX4_behind 1 = .ok (.invokevirtual 90, 3) := by decide +kernel
theorem dX4_behind_4 : decode cX4_behind 4 = .ok (.aload_n 0, 1) := by decide +kernel
theorem dX4_behind_5 : decode cX4_behind 5 = .ok (.iload_n 2, 1) := by decide +kernel
theorem dX4_behind_6 : decode cX4_behind 6 = .ok (.invokevirtual 144, 3) := by decide +kernel
theorem dX4_behind_9 : decode cX4_behind 9 = .ok (.aload_n 0, 1) := by decide +kernel
theorem dX4_behind_10 : decode cX4_behind 10 = .ok (.aload_n 0, 1) := by decide +kernel
theorem dX4_behind_11 : decode cX4_behind 11 = .ok (.getfield 7, 3) := by decide +kernel
theorem dX4_behind_14 : decode cX4_behind 14 = .ok (.iconst 2, 1) := by decide +kernel
theorem dX4_behind_15 : decode cX4_behind 15 = .ok (.iload_n 1, 1) := by decide +kernel
theorem dX4_behind_16 : decode cX4_behind 16 = .ok (.iadd, 1) := by decide +kernel
theorem dX4_behind_17 : decode cX4_behind 17 = .ok (.iaload, 1) := by decide +kernel
theorem dX4_behind_18 : decode cX4_behind 18 = .ok (.invokevirtual 93, 3) := by decide +kernel
theorem dX4_behind_21 : decode cX4_behind 21 = .ok (.ireturn, 1) := by decide +kernel
theorem dX4_better_0 : decode cX4_better 0 = .ok (.iload_n 1, 1) := by decide +kernel
theorem dX4_better_1 : decode cX4_better 1 = .ok (.invokestatic 61, 3) := by decide +kernel
theorem dX4_better_4 : decode cX4_better 4 = .ok (.ifCond .eq 10, 3) := by decide +kernel
theorem dX4_better_7 : decode cX4_better 7 = .ok (.iload_n 2, 1) := by decide +kernel
theorem dX4_better_8 : decode cX4_better 8 = .ok (.invokestatic 171, 3) := by decide +kernel
theorem dX4_better_11 : decode cX4_better 11 = .ok (.ifCond .ne 10, 3) := by decide +kernel
theorem dX4_better_14 : decode cX4_better 14 = .ok (.aload_n 0, 1) := by decide +kernel
theorem dX4_better_15 : decode cX4_better 15 = .ok (.ldc 44, 2) := by decide +kernel
theorem dX4_better_17 : decode cX4_better 17 = .ok (.invokevirtual 64, 3) := by decide +kernel
theorem dX4_better_20 : decode cX4_better 20 = .ok (.ireturn, 1) := by decide +kernel
theorem dX4_better_21 : decode cX4_better 21 = .ok (.iconst (-1), 1) := by decide +kernel
theorem dX4_better_22 : decode cX4_better 22 = .ok (.istore_n 3, 1) := by decide +kernel
theorem dX4_better_23 : decode cX4_better 23 = .ok (.aload_n 0, 1) := by decide +kernel
theorem dX4_better_24 : decode cX4_better 24 = .ok (.iload_n 1, 1) := by decide +kernel
theorem dX4_better_25 : decode cX4_better 25 = .ok (.iload_n 2, 1) := by decide +kernel
theorem dX4_better_26 : decode cX4_better 26 = .ok (.invokevirtual 174, 3) := by decide +kernel
theorem dX4_better_29 : decode cX4_better 29 = .ok (.istore 4, 2) := by decide +kernel
theorem dX4_better_31 : decode cX4_better 31 = .ok (.iconst 0, 1) := by decide +kernel
theorem dX4_better_32 : decode cX4_better 32 = .ok (.istore 5, 2) := by decide +kernel
theorem dX4_better_34 : decode cX4_better 34 = .ok (.iload 5, 2) := by decide +kernel
theorem dX4_better_36 : decode cX4_better 36 = .ok (.aload_n 0, 1) := by decide +kernel
theorem dX4_better_37 : decode cX4_better 37 = .ok (.getfield 7, 3) := by decide +kernel
theorem dX4_better_40 : decode cX4_better 40 = .ok (.iconst 0, 1) := by decide +kernel
theorem dX4_better_41 : decode cX4_better 41 = .ok (.iaload, 1) := by decide +kernel
theorem dX4_better_42 : decode cX4_better 42 = .ok (.if_icmp .ge 92, 3) := by decide +kernel
theorem dX4_better_45 : decode cX4_better 45 = .ok (.iload 5, 2) := by decide +kernel
theorem dX4_better_47 : decode cX4_better 47 = .ok (.iconst 1, 1) := by decide +kernel
theorem dX4_better_48 : decode cX4_better 48 = .ok (.iadd, 1) := by decide +kernel
theorem dX4_better_49 : decode cX4_better 49 = .ok (.istore 6, 2) := by decide +kernel
theorem dX4_better_51 : decode cX4_better 51 = .ok (.iload 6, 2) := by decide +kernel
theorem dX4_better_53 : decode cX4_better 53 = .ok (.aload_n 0, 1) := by decide +kernel
theorem dX4_better_54 : decode cX4_better 54 = .ok (.getfield 7, 3) := by decide +kernel
theorem dX4_better_57 : decode cX4_better 57 = .ok (.iconst 0, 1) := by decide +kernel
theorem dX4_better_58 : decode cX4_better 58 = .ok (.iaload, 1) := by decide +kernel
theorem dX4_better_59 : decode cX4_better 59 = .ok (.if_icmp .ge 69, 3) := by decide +kernel
theorem dX4_better_62 : decode cX4_better 62 = .ok (.aload_n 0, 1) := by decide +kernel
theorem dX4_better_63 : decode cX4_better 63 = .ok (.iload 5, 2) := by decide +kernel
theorem dX4_better_65 : decode cX4_better 65 = .ok (.iload 6, 2) := by decide +kernel
theorem dX4_better_67 : decode cX4_better 67 = .ok (.invokevirtual 134, 3) := by decide +kernel
theorem dX4_better_70 : decode cX4_better 70 = .ok (.aload_n 0, 1) := by decide +kernel
theorem dX4_better_71 : decode cX4_better 71 = .ok (.iload_n 1, 1) := by decide +kernel
theorem dX4_better_72 : decode cX4_better 72 = .ok (.iload_n 2, 1) := by decide +kernel
theorem dX4_better_73 : decode cX4_better 73 = .ok (.invokevirtual 174, 3) := by decide +kernel
theorem dX4_better_76 : decode cX4_better 76 = .ok (.istore 7, 2) := by decide +kernel
theorem dX4_better_78 : decode cX4_better 78 = .ok (.aload_n 0, 1) := by decide +kernel
theorem dX4_better_79 : decode cX4_better 79 = .ok (.iload 5, 2) := by decide +kernel
theorem dX4_better_81 : decode cX4_better 81 = .ok (.iload 6, 2) := by decide +kernel
theorem dX4_better_83 : decode cX4_better 83 = .ok (.invokevirtual 134, 3) := by decide +kernel
theorem dX4_better_86 : decode cX4_better 86 = .ok (.iload 7, 2) := by decide +kernel
theorem dX4_better_88 : decode cX4_better 88 = .ok (.iload 4, 2) := by decide +kernel
theorem dX4_better_90 : decode cX4_better 90 = .ok (.if_icmp .le 14, 3) := by decide +kernel
theorem dX4_better_93 : decode cX4_better 93 = .ok (.bipush 10, 2) := by decide +kernel
theorem dX4_better_95 : decode cX4_better 95 = .ok (.iload 5, 2) := by decide +kernel
theorem dX4_better_97 : decode cX4_better 97 = .ok (.imul, 1) := by decide +kernel
theorem dX4_better_98 : decode cX4_better 98 = .ok (.iload 6, 2) := by decide +kernel
theorem dX4_better_100 : decode cX4_better 100 = .ok (.iadd, 1) := by decide +kernel
theorem dX4_better_101 : decode cX4_better 101 = .ok (.goto 4, 3) := by decide +kernel
theorem dX4_better_104 : decode cX4_better 104 = .ok (.iload_n 3, 1) := by decide +kernel
theorem dX4_better_105 : decode cX4_better 105 = .ok (.istore_n 3, 1) := by decide +kernel
theorem dX4_better_106 : decode cX4_better 106 = .ok (.iload 7, 2) := by decide +kernel
theorem dX4_better_108 : decode cX4_better 108 = .ok (.iload 4, 2) := by decide +kernel
theorem dX4_better_110 : decode cX4_better 110 = .ok (.if_icmp .le 8, 3) := by decide +kernel
theorem dX4_better_113 : decode cX4_better 113 = .ok (.iload 7, 2) := by decide +kernel
theorem dX4_better_115 : decode cX4_better 115 = .ok (.goto 5, 3) := by decide +kernel
theorem dX4_better_118 : decode cX4_better 118 = .ok (.iload 4, 2) := by decide +kernel
theorem dX4_better_120 : decode cX4_better 120 = .ok (.istore 4, 2) := by decide +kernel
theorem dX4_better_122 : decode cX4_better 122 = .ok (.iinc 6 1, 3) := by decide +kernel
theorem dX4_better_125 : decode cX4_better 125 = .ok (.goto (-74), 3) := by decide +kernel
theorem dX4_better_128 : decode cX4_better 128 = .ok (.iinc 5 1, 3) := by decide +kernel
theorem dX4_better_131 : decode cX4_better 131 = .ok (.goto (-97), 3) := by decide +kernel
theorem dX4_better_134 : decode cX4_better 134 = .ok (.iload_n 3, 1) := by decide +kernel
theorem dX4_better_135 : decode cX4_better 135 = .ok (.ifCond .ge 12, 3) := by decide +kernel
theorem dX4_better_138 : decode cX4_better 138 = .ok (.aload_n 0, 1) := by decide +kernel
theorem dX4_better_139 : decode cX4_better 139 = .ok (.ldc 162, 2) := by decide +kernel
theorem dX4_better_141 : decode cX4_better 141 = .ok (.invokevirtual 64, 3) := by decide +kernel
theorem dX4_better_144 : decode cX4_better 144 = .ok (.goto 4, 3) := by decide +kernel
theorem dX4_better_147 : decode cX4_better 147 = .ok (.iload_n 3, 1) := by decide +kernel
theorem dX4_better_148 : decode cX4_better 148 = .ok (.ireturn, 1) := by decide +kernel
theorem dX4_weight_0 : decode cX4_weight 0 = .ok (.aload_n 0, 1) := by decide +kernel
theorem dX4_weight_1 : decode cX4_weight 1 = .ok (.iload_n 1, 1) := by decide +kernel
theorem dX4_weight_2 : decode cX4_weight 2 = .ok (.invokevirtual 51, 3) := by decide +kernel
theorem dX4_weight_5 : decode cX4_weight 5 = .ok (.ifCond .eq 35, 3) := by decide +kernel
theorem dX4_weight_8 : decode cX4_weight 8 = .ok (.iload_n 2, 1) := by decide +kernel
theorem dX4_weight_9 : decode cX4_weight 9 = .ok (.invokestatic 61, 3) := by decide +kernel
theorem dX4_weight_12 : decode cX4_weight 12 = .ok (.ifCond .eq 28, 3) := by decide +kernel
theorem dX4_weight_15 : decode cX4_weight 15 = .ok (.iload_n 3, 1) := by decide +kernel
theorem dX4_weight_16 : decode cX4_weight 16 = .ok (.i2l, 1) := by decide +kernel
theorem dX4_weight_17 : decode cX4_weight 17 = .ok (.lconst 1, 1) := by decide +kernel
theorem dX4_weight_18 : decode cX4_weight 18 = .ok (.ldc2_w 177, 3) := by decide +kernel
theorem dX4_weight_21 : decode cX4_weight 21 = .ok (.invokestatic 47, 3) := by decide +kernel
theorem dX4_weight_24 : decode cX4_weight 24 = .ok (.ifCond .eq 16, 3) := by decide +kernel
theorem dX4_weight_27 : decode cX4_weight 27 = .ok (.iload 4, 2) := by decide +kernel
theorem dX4_weight_29 : decode cX4_weight 29 = .ok (.i2l, 1) := by decide +kernel
theorem dX4_weight_30 : decode cX4_weight 30 = .ok (.lconst 0, 1) := by decide +kernel
theorem dX4_weight_31 : decode cX4_weight 31 = .ok (.ldc2_w 68, 3) := by decide +kernel
theorem dX4_weight_34 : decode cX4_weight 34 = .ok (.invokestatic 47, 3) := by decide +kernel
theorem dX4_weight_37 : decode cX4_weight 37 = .ok (.ifCond .ne 10, 3) := by decide +kernel
theorem dX4_weight_40 : decode cX4_weight 40 = .ok (.aload_n 0, 1) := by decide +kernel
theorem dX4_weight_41 : decode cX4_weight 41 = .ok (.ldc 44, 2) := by decide +kernel
theorem dX4_weight_43 : decode cX4_weight 43 = .ok (.invokevirtual 64, 3) := by decide +kernel
theorem dX4_weight_46 : decode cX4_weight 46 = .ok (.ireturn, 1) := by decide +kernel
theorem dX4_weight_47 : decode cX4_weight 47 = .ok (.aload_n 0, 1) := by decide +kernel
theorem dX4_weight_48 : decode cX4_weight 48 = .ok (.iload_n 1, 1) := by decide +kernel
theorem dX4_weight_49 : decode cX4_weight 49 = .ok (.iconst 2, 1) := by decide +kernel
theorem dX4_weight_50 : decode cX4_weight 50 = .ok (.invokevirtual 102, 3) := by decide +kernel
theorem dX4_weight_53 : decode cX4_weight 53 = .ok (.istore 5, 2) := by decide +kernel
theorem dX4_weight_55 : decode cX4_weight 55 = .ok (.iconst (-1), 1) := by decide +kernel
theorem dX4_weight_56 : decode cX4_weight 56 = .ok (.istore 6, 2) := by decide +kernel
theorem dX4_weight_58 : decode cX4_weight 58 = .ok (.iconst 0, 1) := by decide +kernel
theorem dX4_weight_59 : decode cX4_weight 59 = .ok (.istore 7, 2) := by decide +kernel
theorem dX4_weight_61 : decode cX4_weight 61 = .ok (.iload 7, 2) := by decide +kernel
theorem dX4_weight_63 : decode cX4_weight 63 = .ok (.sipush 999, 3) := by decide +kernel
theorem dX4_weight_66 : decode cX4_weight 66 = .ok (.if_icmp .gt 45, 3) := by decide +kernel
theorem dX4_weight_69 : decode cX4_weight 69 = .ok (.iload 6, 2) := by decide +kernel
theorem dX4_weight_71 : decode cX4_weight 71 = .ok (.ifCond .ge 40, 3) := by decide +kernel
theorem dX4_weight_74 : decode cX4_weight 74 = .ok (.aload_n 0, 1) := by decide +kernel
theorem dX4_weight_75 : decode cX4_weight 75 = .ok (.getfield 7, 3) := by decide +kernel
theorem dX4_weight_78 : decode cX4_weight 78 = .ok (.iload_n 1, 1) := by decide +kernel
theorem dX4_weight_79 : decode cX4_weight 79 = .ok (.iconst 2, 1) := by decide +kernel
theorem dX4_weight_80 : decode cX4_weight 80 = .ok (.invokestatic 57, 3) := by decide +kernel
theorem dX4_weight_83 : decode cX4_weight 83 = .ok (.iload 7, 2) := by decide +kernel
theorem dX4_weight_85 : decode cX4_weight 85 = .ok (.iastore, 1) := by decide +kernel
theorem dX4_weight_86 : decode cX4_weight 86 = .ok (.aload_n 0, 1) := by decide +kernel
theorem dX4_weight_87 : decode cX4_weight 87 = .ok (.iload_n 2, 1) := by decide +kernel
theorem dX4_weight_88 : decode cX4_weight 88 = .ok (.iload_n 3, 1) := by decide +kernel
theorem dX4_weight_89 : decode cX4_weight 89 = .ok (.invokevirtual 174, 3) := by decide +kernel
theorem dX4_weight_92 : decode cX4_weight 92 = .ok (.iload 4, 2) := by decide +kernel
theorem dX4_weight_94 : decode cX4_weight 94 = .ok (.if_icmp .lt 8, 3) := by decide +kernel
theorem dX4_weight_97 : decode cX4_weight 97 = .ok (.iload 7, 2) := by decide +kernel
theorem dX4_weight_99 : decode cX4_weight 99 = .ok (.goto 4, 3) := by decide +kernel
theorem dX4_weight_102 : decode cX4_weight 102 = .ok (.iconst (-1), 1) := by decide +kernel
theorem dX4_weight_103 : decode cX4_weight 103 = .ok (.istore 6, 2) := by decide +kernel
theorem dX4_weight_105 : decode cX4_weight 105 = .ok (.iinc 7 1, 3) := by decide +kernel
theorem dX4_weight_108 : decode cX4_weight 108 = .ok (.goto (-47), 3) := by decide +kernel
theorem dX4_weight_111 : decode cX4_weight 111 = .ok (.aload_n 0, 1) := by decide +kernel
theorem dX4_weight_112 : decode cX4_weight 112 = .ok (.getfield 7, 3) := by decide +kernel
theorem dX4_weight_115 : decode cX4_weight 115 = .ok (.iload_n 1, 1) := by decide +kernel
theorem dX4_weight_116 : decode cX4_weight 116 = .ok (.iconst 2, 1) := by decide +kernel
theorem dX4_weight_117 : decode cX4_weight 117 = .ok (.invokestatic 57, 3) := by decide +kernel
theorem dX4_weight_120 : decode cX4_weight 120 = .ok (.iload 5, 2) := by decide +kernel
theorem dX4_weight_122 : decode cX4_weight 122 = .ok (.iastore, 1) := by decide +kernel
theorem dX4_weight_123 : decode cX4_weight 123 = .ok (.iload 6, 2) := by decide +kernel
theorem dX4_weight_125 : decode cX4_weight 125 = .ok (.ifCond .ge 12, 3) := by decide +kernel
theorem dX4_weight_128 : decode cX4_weight 128 = .ok (.aload_n 0, 1) := by decide +kernel
theorem dX4_weight_129 : decode cX4_weight 129 = .ok (.ldc 162, 2) := by decide +kernel
theorem dX4_weight_131 : decode cX4_weight 131 = .ok (.invokevirtual 64, 3) := by decide +kernel
theorem dX4_weight_134 : decode cX4_weight 134 = .ok (.goto 5, 3) := by decide +kernel
theorem dX4_weight_137 : decode cX4_weight 137 = .ok (.iload 6, 2) := by decide +kernel
theorem dX4_weight_139 : decode cX4_weight 139 = .ok (.ireturn, 1) := by decide +kernel
theorem dX4_kind_0 : decode cX4_kind 0 = .ok (.aload_n 0, 1) := by decide +kernel
theorem dX4_kind_1 : decode cX4_kind 1 = .ok (.iload_n 1, 1) := by decide +kernel
theorem dX4_kind_2 : decode cX4_kind 2 = .ok (.invokevirtual 51, 3) := by decide +kernel
theorem dX4_kind_5 : decode cX4_kind 5 = .ok (.ifCond .eq 17, 3) := by decide +kernel
theorem dX4_kind_8 : decode cX4_kind 8 = .ok (.iload_n 2, 1) := by decide +kernel
theorem dX4_kind_9 : decode cX4_kind 9 = .ok (.invokestatic 61, 3) := by decide +kernel
theorem dX4_kind_12 : decode cX4_kind 12 = .ok (.ifCond .eq 10, 3) := by decide +kernel
theorem dX4_kind_15 : decode cX4_kind 15 = .ok (.iload_n 3, 1) := by decide +kernel
theorem dX4_kind_16 : decode cX4_kind 16 = .ok (.invokestatic 171, 3) := by decide +kernel
theorem dX4_kind_19 : decode cX4_kind 19 = .ok (.ifCond .ne 10, 3) := by decide +kernel
theorem dX4_kind_22 : decode cX4_kind 22 = .ok (.aload_n 0, 1) := by decide +kernel
theorem dX4_kind_23 : decode cX4_kind 23 = .ok (.ldc 44, 2) := by decide +kernel
theorem dX4_kind_25 : decode cX4_kind 25 = .ok (.invokevirtual 64, 3) := by decide +kernel
theorem dX4_kind_28 : decode cX4_kind 28 = .ok (.ireturn, 1) := by decide +kernel
theorem dX4_kind_29 : decode cX4_kind 29 = .ok (.aload_n 0, 1) := by decide +kernel
theorem dX4_kind_30 : decode cX4_kind 30 = .ok (.iload_n 1, 1) := by decide +kernel
theorem dX4_kind_31 : decode cX4_kind 31 = .ok (.iconst 0, 1) := by decide +kernel
theorem dX4_kind_32 : decode cX4_kind 32 = .ok (.invokevirtual 102, 3) := by decide +kernel
theorem dX4_kind_35 : decode cX4_kind 35 = .ok (.istore 4, 2) := by decide +kernel
theorem dX4_kind_37 : decode cX4_kind 37 = .ok (.iconst 0, 1) := by decide +kernel
theorem dX4_kind_38 : decode cX4_kind 38 = .ok (.istore 5, 2) := by decide +kernel
theorem dX4_kind_40 : decode cX4_kind 40 = .ok (.iconst (-1), 1) := by decide +kernel
theorem dX4_kind_41 : decode cX4_kind 41 = .ok (.istore 6, 2) := by decide +kernel
theorem dX4_kind_43 : decode cX4_kind 43 = .ok (.iconst 0, 1) := by decide +kernel
theorem dX4_kind_44 : decode cX4_kind 44 = .ok (.istore 7, 2) := by decide +kernel
theorem dX4_kind_46 : decode cX4_kind 46 = .ok (.iload 7, 2) := by decide +kernel
theorem dX4_kind_48 : decode cX4_kind 48 = .ok (.iconst 5, 1) := by decide +kernel
theorem dX4_kind_49 : decode cX4_kind 49 = .ok (.if_icmp .gt 61, 3) := by decide +kernel
theorem dX4_kind_52 : decode cX4_kind 52 = .ok (.aload_n 0, 1) := by decide +kernel
theorem dX4_kind_53 : decode cX4_kind 53 = .ok (.getfield 7, 3) := by decide +kernel
theorem dX4_kind_56 : decode cX4_kind 56 = .ok (.iload_n 1, 1) := by decide +kernel
theorem dX4_kind_57 : decode cX4_kind 57 = .ok (.iconst 0, 1) := by decide +kernel
theorem dX4_kind_58 : decode cX4_kind 58 = .ok (.invokestatic 57, 3) := by decide +kernel
theorem dX4_kind_61 : decode cX4_kind 61 = .ok (.iload 7, 2) := by decide +kernel
theorem dX4_kind_63 : decode cX4_kind 63 = .ok (.iastore, 1) := by decide +kernel
theorem dX4_kind_64 : decode cX4_kind 64 = .ok (.aload_n 0, 1) := by decide +kernel
theorem dX4_kind_65 : decode cX4_kind 65 = .ok (.iload_n 2, 1) := by decide +kernel
theorem dX4_kind_66 : decode cX4_kind 66 = .ok (.iload_n 3, 1) := by decide +kernel
theorem dX4_kind_67 : decode cX4_kind 67 = .ok (.invokevirtual 174, 3) := by decide +kernel
theorem dX4_kind_70 : decode cX4_kind 70 = .ok (.istore 8, 2) := by decide +kernel
theorem dX4_kind_72 : decode cX4_kind 72 = .ok (.iload 8, 2) := by decide +kernel
theorem dX4_kind_74 : decode cX4_kind 74 = .ok (.iload 6, 2) := by decide +kernel
theorem dX4_kind_76 : decode cX4_kind 76 = .ok (.if_icmp .le 8, 3) := by decide +kernel
theorem dX4_kind_79 : decode cX4_kind 79 = .ok (.iload 7, 2) := by decide +kernel
theorem dX4_kind_81 : decode cX4_kind 81 = .ok (.goto 5, 3) := by decide +kernel
theorem dX4_kind_84 : decode cX4_kind 84 = .ok (.iload 5, 2) := by decide +kernel
theorem dX4_kind_86 : decode cX4_kind 86 = .ok (.istore 5, 2) := by decide +kernel
theorem dX4_kind_88 : decode cX4_kind 88 = .ok (.iload 8, 2) := by decide +kernel
theorem dX4_kind_90 : decode cX4_kind 90 = .ok (.iload 6, 2) := by decide +kernel
theorem dX4_kind_92 : decode cX4_kind 92 = .ok (.if_icmp .le 8, 3) := by decide +kernel
theorem dX4_kind_95 : decode cX4_kind 95 = .ok (.iload 8, 2) := by decide +kernel
theorem dX4_kind_97 : decode cX4_kind 97 = .ok (.goto 5, 3) := by decide +kernel
theorem dX4_kind_100 : decode cX4_kind 100 = .ok (.iload 6, 2) := by decide +kernel
theorem dX4_kind_102 : decode cX4_kind 102 = .ok (.istore 6, 2) := by decide +kernel
theorem dX4_kind_104 : decode cX4_kind 104 = .ok (.iinc 7 1, 3) := by decide +kernel
theorem dX4_kind_107 : decode cX4_kind 107 = .ok (.goto (-61), 3) := by decide +kernel
theorem dX4_kind_110 : decode cX4_kind 110 = .ok (.aload_n 0, 1) := by decide +kernel
theorem dX4_kind_111 : decode cX4_kind 111 = .ok (.getfield 7, 3) := by decide +kernel
theorem dX4_kind_114 : decode cX4_kind 114 = .ok (.iload_n 1, 1) := by decide +kernel
theorem dX4_kind_115 : decode cX4_kind 115 = .ok (.iconst 0, 1) := by decide +kernel
theorem dX4_kind_116 : decode cX4_kind 116 = .ok (.invokestatic 57, 3) := by decide +kernel
theorem dX4_kind_119 : decode cX4_kind 119 = .ok (.iload 4, 2) := by decide +kernel
theorem dX4_kind_121 : decode cX4_kind 121 = .ok (.iastore, 1) := by decide +kernel
theorem dX4_kind_122 : decode cX4_kind 122 = .ok (.iload 5, 2) := by decide +kernel
theorem dX4_kind_124 : decode cX4_kind 124 = .ok (.ireturn, 1) := by decide +kernel
theorem dX4_leastTaste_0 : decode cX4_leastTaste 0 = .ok (.iload_n 1, 1) := by decide +kernel
theorem dX4_leastTaste_1 : decode cX4_leastTaste 1 = .ok (.ifCond .ne 7, 3) := by decide +kernel
theorem dX4_leastTaste_4 : decode cX4_leastTaste 4 = .ok (.iconst 0, 1) := by decide +kernel
theorem dX4_leastTaste_5 : decode cX4_leastTaste 5 = .ok (.goto 6, 3) := by decide +kernel
theorem dX4_leastTaste_8 : decode cX4_leastTaste 8 = .ok (.sipush 1000, 3) := by decide +kernel
theorem dX4_leastTaste_11 : decode cX4_leastTaste 11 = .ok (.istore_n 2, 1) := by decide +kernel
theorem dX4_leastTaste_12 : decode cX4_leastTaste 12 = .ok (.iconst 0, 1) := by decide +kernel
theorem dX4_leastTaste_13 : decode cX4_leastTaste 13 = .ok (.istore_n 3, 1) := by decide +kernel
theorem dX4_leastTaste_14 : decode cX4_leastTaste 14 = .ok (.iload_n 3, 1) := by decide +kernel
theorem dX4_leastTaste_15 : decode cX4_leastTaste 15 = .ok (.bipush 12, 2) := by decide +kernel
theorem dX4_leastTaste_17 : decode cX4_leastTaste 17 = .ok (.if_icmp .ge 42, 3) := by decide +kernel
theorem dX4_leastTaste_20 : decode cX4_leastTaste 20 = .ok (.iload_n 1, 1) := by decide +kernel
theorem dX4_leastTaste_21 : decode cX4_leastTaste 21 = .ok (.iload_n 3, 1) := by decide +kernel
theorem dX4_leastTaste_22 : decode cX4_leastTaste 22 = .ok (.ishr, 1) := by decide +kernel
theorem dX4_leastTaste_23 : decode cX4_leastTaste 23 = .ok (.iconst 1, 1) := by decide +kernel
theorem dX4_leastTaste_24 : decode cX4_leastTaste 24 = .ok (.iand, 1) := by decide +kernel
theorem dX4_leastTaste_25 : decode cX4_leastTaste 25 = .ok (.iconst 1, 1) := by decide +kernel
theorem dX4_leastTaste_26 : decode cX4_leastTaste 26 = .ok (.if_icmp .ne 11, 3) := by decide +kernel
theorem dX4_leastTaste_29 : decode cX4_leastTaste 29 = .ok (.aload_n 0, 1) := by decide +kernel
theorem dX4_leastTaste_30 : decode cX4_leastTaste 30 = .ok (.iload_n 3, 1) := by decide +kernel
theorem dX4_leastTaste_31 : decode cX4_leastTaste 31 = .ok (.invokevirtual 79, 3) := by decide +kernel
theorem dX4_leastTaste_34 : decode cX4_leastTaste 34 = .ok (.goto 4, 3) := by decide +kernel
theorem dX4_leastTaste_37 : decode cX4_leastTaste 37 = .ok (.iload_n 2, 1) := by decide +kernel
theorem dX4_leastTaste_38 : decode cX4_leastTaste 38 = .ok (.istore 4, 2) := by decide +kernel
theorem dX4_leastTaste_40 : decode cX4_leastTaste 40 = .ok (.iload 4, 2) := by decide +kernel
theorem dX4_leastTaste_42 : decode cX4_leastTaste 42 = .ok (.iload_n 2, 1) := by decide +kernel
theorem dX4_leastTaste_43 : decode cX4_leastTaste 43 = .ok (.if_icmp .ge 8, 3) := by decide +kernel
theorem dX4_leastTaste_46 : decode cX4_leastTaste 46 = .ok (.iload 4, 2) := by decide +kernel
theorem dX4_leastTaste_48 : decode cX4_leastTaste 48 = .ok (.goto 4, 3) := by decide +kernel
theorem dX4_leastTaste_51 : decode cX4_leastTaste 51 = .ok (.iload_n 2, 1) := by decide +kernel
theorem dX4_leastTaste_52 : decode cX4_leastTaste 52 = .ok (.istore_n 2, 1) := by decide +kernel
theorem dX4_leastTaste_53 : decode cX4_leastTaste 53 = .ok (.iinc 3 1, 3) := by decide +kernel
theorem dX4_leastTaste_56 : decode cX4_leastTaste 56 = .ok (.goto (-42), 3) := by decide +kernel
theorem dX4_leastTaste_59 : decode cX4_leastTaste 59 = .ok (.iload_n 2, 1) := by decide +kernel
theorem dX4_leastTaste_60 : decode cX4_leastTaste 60 = .ok (.ireturn, 1) := by decide +kernel
theorem dX4_puts_0 : decode cX4_puts 0 = .ok (.aload_n 0, 1) := by decide +kernel
theorem dX4_puts_1 : decode cX4_puts 1 = .ok (.iload_n 1, 1) := by decide +kernel
theorem dX4_puts_2 : decode cX4_puts 2 = .ok (.invokevirtual 51, 3) := by decide +kernel
theorem dX4_puts_5 : decode cX4_puts 5 = .ok (.ifCond .eq 10, 3) := by decide +kernel
theorem dX4_puts_8 : decode cX4_puts 8 = .ok (.iload_n 2, 1) := by decide +kernel
theorem dX4_puts_9 : decode cX4_puts 9 = .ok (.invokestatic 171, 3) := by decide +kernel
theorem dX4_puts_12 : decode cX4_puts 12 = .ok (.ifCond .ne 10, 3) := by decide +kernel
theorem dX4_puts_15 : decode cX4_puts 15 = .ok (.aload_n 0, 1) := by decide +kernel
theorem dX4_puts_16 : decode cX4_puts 16 = .ok (.ldc 44, 2) := by decide +kernel
theorem dX4_puts_18 : decode cX4_puts 18 = .ok (.invokevirtual 64, 3) := by decide +kernel
theorem dX4_puts_21 : decode cX4_puts 21 = .ok (.ireturn, 1) := by decide +kernel
theorem dX4_puts_22 : decode cX4_puts 22 = .ok (.aload_n 0, 1) := by decide +kernel
theorem dX4_puts_23 : decode cX4_puts 23 = .ok (.invokevirtual 148, 3) := by decide +kernel
theorem dX4_puts_26 : decode cX4_puts 26 = .ok (.istore_n 3, 1) := by decide +kernel
theorem dX4_puts_27 : decode cX4_puts 27 = .ok (.iconst 0, 1) := by decide +kernel
theorem dX4_puts_28 : decode cX4_puts 28 = .ok (.istore 4, 2) := by decide +kernel
theorem dX4_puts_30 : decode cX4_puts 30 = .ok (.iconst (-1), 1) := by decide +kernel
theorem dX4_puts_31 : decode cX4_puts 31 = .ok (.istore 5, 2) := by decide +kernel
theorem dX4_puts_33 : decode cX4_puts 33 = .ok (.aload_n 0, 1) := by decide +kernel
theorem dX4_puts_34 : decode cX4_puts 34 = .ok (.invokevirtual 90, 3) := by decide +kernel
theorem dX4_puts_37 : decode cX4_puts 37 = .ok (.iconst 0, 1) := by decide +kernel
theorem dX4_puts_38 : decode cX4_puts 38 = .ok (.istore 6, 2) := by decide +kernel
theorem dX4_puts_40 : decode cX4_puts 40 = .ok (.iload 6, 2) := by decide +kernel
theorem dX4_puts_42 : decode cX4_puts 42 = .ok (.bipush 12, 2) := by decide +kernel
theorem dX4_puts_44 : decode cX4_puts 44 = .ok (.if_icmp .ge 69, 3) := by decide +kernel
theorem dX4_puts_47 : decode cX4_puts 47 = .ok (.aload_n 0, 1) := by decide +kernel
theorem dX4_puts_48 : decode cX4_puts 48 = .ok (.getfield 7, 3) := by decide +kernel
theorem dX4_puts_51 : decode cX4_puts 51 = .ok (.iload_n 1, 1) := by decide +kernel
theorem dX4_puts_52 : decode cX4_puts 52 = .ok (.iconst 1, 1) := by decide +kernel
theorem dX4_puts_53 : decode cX4_puts 53 = .ok (.invokestatic 57, 3) := by decide +kernel
theorem dX4_puts_56 : decode cX4_puts 56 = .ok (.iload 6, 2) := by decide +kernel
theorem dX4_puts_58 : decode cX4_puts 58 = .ok (.iastore, 1) := by decide +kernel
theorem dX4_puts_59 : decode cX4_puts 59 = .ok (.aload_n 0, 1) := by decide +kernel
theorem dX4_puts_60 : decode cX4_puts 60 = .ok (.iload_n 2, 1) := by decide +kernel
theorem dX4_puts_61 : decode cX4_puts 61 = .ok (.invokevirtual 144, 3) := by decide +kernel
theorem dX4_puts_64 : decode cX4_puts 64 = .ok (.aload_n 0, 1) := by decide +kernel
theorem dX4_puts_65 : decode cX4_puts 65 = .ok (.aload_n 0, 1) := by decide +kernel
theorem dX4_puts_66 : decode cX4_puts 66 = .ok (.iload_n 3, 1) := by decide +kernel
theorem dX4_puts_67 : decode cX4_puts 67 = .ok (.invokevirtual 179, 3) := by decide +kernel
theorem dX4_puts_70 : decode cX4_puts 70 = .ok (.invokevirtual 93, 3) := by decide +kernel
theorem dX4_puts_73 : decode cX4_puts 73 = .ok (.istore 7, 2) := by decide +kernel
theorem dX4_puts_75 : decode cX4_puts 75 = .ok (.iload 7, 2) := by decide +kernel
theorem dX4_puts_77 : decode cX4_puts 77 = .ok (.iload 5, 2) := by decide +kernel
theorem dX4_puts_79 : decode cX4_puts 79 = .ok (.if_icmp .le 8, 3) := by decide +kernel
theorem dX4_puts_82 : decode cX4_puts 82 = .ok (.iload 6, 2) := by decide +kernel
theorem dX4_puts_84 : decode cX4_puts 84 = .ok (.goto 5, 3) := by decide +kernel
theorem dX4_puts_87 : decode cX4_puts 87 = .ok (.iload 4, 2) := by decide +kernel
theorem dX4_puts_89 : decode cX4_puts 89 = .ok (.istore 4, 2) := by decide +kernel
theorem dX4_puts_91 : decode cX4_puts 91 = .ok (.iload 7, 2) := by decide +kernel
theorem dX4_puts_93 : decode cX4_puts 93 = .ok (.iload 5, 2) := by decide +kernel
theorem dX4_puts_95 : decode cX4_puts 95 = .ok (.if_icmp .le 8, 3) := by decide +kernel
theorem dX4_puts_98 : decode cX4_puts 98 = .ok (.iload 7, 2) := by decide +kernel
theorem dX4_puts_100 : decode cX4_puts 100 = .ok (.goto 5, 3) := by decide +kernel
theorem dX4_puts_103 : decode cX4_puts 103 = .ok (.iload 5, 2) := by decide +kernel
theorem dX4_puts_105 : decode cX4_puts 105 = .ok (.istore 5, 2) := by decide +kernel
theorem dX4_puts_107 : decode cX4_puts 107 = .ok (.iinc 6 1, 3) := by decide +kernel
theorem dX4_puts_110 : decode cX4_puts 110 = .ok (.goto (-70), 3) := by decide +kernel
theorem dX4_puts_113 : decode cX4_puts 113 = .ok (.iload 4, 2) := by decide +kernel
theorem dX4_puts_115 : decode cX4_puts 115 = .ok (.ireturn, 1) := by decide +kernel
theorem dX4_best_0 : decode cX4_best 0 = .ok (.iload_n 1, 1) := by decide +kernel
theorem dX4_best_1 : decode cX4_best 1 = .ok (.i2l, 1) := by decide +kernel
theorem dX4_best_2 : decode cX4_best 2 = .ok (.lconst 0, 1) := by decide +kernel
theorem dX4_best_3 : decode cX4_best 3 = .ok (.ldc2_w 141, 3) := by decide +kernel
theorem dX4_best_6 : decode cX4_best 6 = .ok (.invokestatic 47, 3) := by decide +kernel
theorem dX4_best_9 : decode cX4_best 9 = .ok (.ifCond .ne 10, 3) := by decide +kernel
theorem dX4_best_12 : decode cX4_best 12 = .ok (.aload_n 0, 1) := by decide +kernel
theorem dX4_best_13 : decode cX4_best 13 = .ok (.ldc 44, 2) := by decide +kernel
theorem dX4_best_15 : decode cX4_best 15 = .ok (.invokevirtual 64, 3) := by decide +kernel
theorem dX4_best_18 : decode cX4_best 18 = .ok (.ireturn, 1) := by decide +kernel
theorem dX4_best_19 : decode cX4_best 19 = .ok (.aload_n 0, 1) := by decide +kernel
theorem dX4_best_20 : decode cX4_best 20 = .ok (.invokevirtual 90, 3) := by decide +kernel
theorem dX4_best_23 : decode cX4_best 23 = .ok (.aload_n 0, 1) := by decide +kernel
theorem dX4_best_24 : decode cX4_best 24 = .ok (.iload_n 1, 1) := by decide +kernel
theorem dX4_best_25 : decode cX4_best 25 = .ok (.invokevirtual 144, 3) := by decide +kernel
theorem dX4_best_28 : decode cX4_best 28 = .ok (.iconst 1, 1) := by decide +kernel
theorem dX4_best_29 : decode cX4_best 29 = .ok (.istore_n 2, 1) := by decide +kernel
theorem dX4_best_30 : decode cX4_best 30 = .ok (.iconst 2, 1) := by decide +kernel
theorem dX4_best_31 : decode cX4_best 31 = .ok (.istore_n 3, 1) := by decide +kernel
theorem dX4_best_32 : decode cX4_best 32 = .ok (.iload_n 3, 1) := by decide +kernel
theorem dX4_best_33 : decode cX4_best 33 = .ok (.bipush 12, 2) := by decide +kernel
theorem dX4_best_35 : decode cX4_best 35 = .ok (.if_icmp .ge 28, 3) := by decide +kernel
theorem dX4_best_38 : decode cX4_best 38 = .ok (.aload_n 0, 1) := by decide +kernel
theorem dX4_best_39 : decode cX4_best 39 = .ok (.iload_n 3, 1) := by decide +kernel
theorem dX4_best_40 : decode cX4_best 40 = .ok (.invokevirtual 79, 3) := by decide +kernel
theorem dX4_best_43 : decode cX4_best 43 = .ok (.aload_n 0, 1) := by decide +kernel
theorem dX4_best_44 : decode cX4_best 44 = .ok (.iload_n 2, 1) := by decide +kernel
theorem dX4_best_45 : decode cX4_best 45 = .ok (.invokevirtual 79, 3) := by decide +kernel
theorem dX4_best_48 : decode cX4_best 48 = .ok (.if_icmp .le 7, 3) := by decide +kernel
theorem dX4_best_51 : decode cX4_best 51 = .ok (.iload_n 3, 1) := by decide +kernel
theorem dX4_best_52 : decode cX4_best 52 = .ok (.goto 4, 3) := by decide +kernel
theorem dX4_best_55 : decode cX4_best 55 = .ok (.iload_n 2, 1) := by decide +kernel
theorem dX4_best_56 : decode cX4_best 56 = .ok (.istore_n 2, 1) := by decide +kernel
theorem dX4_best_57 : decode cX4_best 57 = .ok (.iinc 3 1, 3) := by decide +kernel
theorem dX4_best_60 : decode cX4_best 60 = .ok (.goto (-28), 3) := by decide +kernel
theorem dX4_best_63 : decode cX4_best 63 = .ok (.aload_n 0, 1) := by decide +kernel
theorem dX4_best_64 : decode cX4_best 64 = .ok (.iload_n 2, 1) := by decide +kernel
theorem dX4_best_65 : decode cX4_best 65 = .ok (.invokevirtual 93, 3) := by decide +kernel
theorem dX4_best_68 : decode cX4_best 68 = .ok (.ireturn, 1) := by decide +kernel
theorem dX4_dull_0 : decode cX4_dull 0 = .ok (.iload_n 1, 1) := by decide +kernel
theorem dX4_dull_1 : decode cX4_dull 1 = .ok (.invokestatic 171, 3) := by decide +kernel
theorem dX4_dull_4 : decode cX4_dull 4 = .ok (.ifCond .ne 10, 3) := by decide +kernel
theorem dX4_dull_7 : decode cX4_dull 7 = .ok (.aload_n 0, 1) := by decide +kernel
theorem dX4_dull_8 : decode cX4_dull 8 = .ok (.ldc 44, 2) := by decide +kernel
theorem dX4_dull_10 : decode cX4_dull 10 = .ok (.invokevirtual 64, 3) := by decide +kernel
theorem dX4_dull_13 : decode cX4_dull 13 = .ok (.ireturn, 1) := by decide +kernel
theorem dX4_dull_14 : decode cX4_dull 14 = .ok (.iconst 0, 1) := by decide +kernel
theorem dX4_dull_15 : decode cX4_dull 15 = .ok (.istore_n 2, 1) := by decide +kernel
theorem dX4_dull_16 : decode cX4_dull 16 = .ok (.aload_n 0, 1) := by decide +kernel
theorem dX4_dull_17 : decode cX4_dull 17 = .ok (.invokevirtual 90, 3) := by decide +kernel
theorem dX4_dull_20 : decode cX4_dull 20 = .ok (.iconst 0, 1) := by decide +kernel
theorem dX4_dull_21 : decode cX4_dull 21 = .ok (.istore_n 3, 1) := by decide +kernel
theorem dX4_dull_22 : decode cX4_dull 22 = .ok (.iload_n 3, 1) := by decide +kernel
theorem dX4_dull_23 : decode cX4_dull 23 = .ok (.aload_n 0, 1) := by decide +kernel
theorem dX4_dull_24 : decode cX4_dull 24 = .ok (.getfield 7, 3) := by decide +kernel
theorem dX4_dull_27 : decode cX4_dull 27 = .ok (.iconst 0, 1) := by decide +kernel
theorem dX4_dull_28 : decode cX4_dull 28 = .ok (.iaload, 1) := by decide +kernel
theorem dX4_dull_29 : decode cX4_dull 29 = .ok (.if_icmp .ge 83, 3) := by decide +kernel
theorem dX4_dull_32 : decode cX4_dull 32 = .ok (.iconst 0, 1) := by decide +kernel
theorem dX4_dull_33 : decode cX4_dull 33 = .ok (.istore 4, 2) := by decide +kernel
theorem dX4_dull_35 : decode cX4_dull 35 = .ok (.iload 4, 2) := by decide +kernel
theorem dX4_dull_37 : decode cX4_dull 37 = .ok (.aload_n 0, 1) := by decide +kernel
theorem dX4_dull_38 : decode cX4_dull 38 = .ok (.getfield 7, 3) := by decide +kernel
theorem dX4_dull_41 : decode cX4_dull 41 = .ok (.iconst 0, 1) := by decide +kernel
theorem dX4_dull_42 : decode cX4_dull 42 = .ok (.iaload, 1) := by decide +kernel
theorem dX4_dull_43 : decode cX4_dull 43 = .ok (.if_icmp .ge 37, 3) := by decide +kernel
theorem dX4_dull_46 : decode cX4_dull 46 = .ok (.aload_n 0, 1) := by decide +kernel
theorem dX4_dull_47 : decode cX4_dull 47 = .ok (.getfield 7, 3) := by decide +kernel
theorem dX4_dull_50 : decode cX4_dull 50 = .ok (.iload 4, 2) := by decide +kernel
theorem dX4_dull_52 : decode cX4_dull 52 = .ok (.iconst 1, 1) := by decide +kernel
theorem dX4_dull_53 : decode cX4_dull 53 = .ok (.invokestatic 57, 3) := by decide +kernel
theorem dX4_dull_56 : decode cX4_dull 56 = .ok (.iload 4, 2) := by decide +kernel
theorem dX4_dull_58 : decode cX4_dull 58 = .ok (.iload_n 3, 1) := by decide +kernel
theorem dX4_dull_59 : decode cX4_dull 59 = .ok (.if_icmp .ne 13, 3) := by decide +kernel
theorem dX4_dull_62 : decode cX4_dull 62 = .ok (.aload_n 0, 1) := by decide +kernel
theorem dX4_dull_63 : decode cX4_dull 63 = .ok (.iload 4, 2) := by decide +kernel
theorem dX4_dull_65 : decode cX4_dull 65 = .ok (.iconst 1, 1) := by decide +kernel
theorem dX4_dull_66 : decode cX4_dull 66 = .ok (.invokevirtual 102, 3) := by decide +kernel
theorem dX4_dull_69 : decode cX4_dull 69 = .ok (.goto 4, 3) := by decide +kernel
theorem dX4_dull_72 : decode cX4_dull 72 = .ok (.iconst 0, 1) := by decide +kernel
theorem dX4_dull_73 : decode cX4_dull 73 = .ok (.iastore, 1) := by decide +kernel
theorem dX4_dull_74 : decode cX4_dull 74 = .ok (.iinc 4 1, 3) := by decide +kernel
theorem dX4_dull_77 : decode cX4_dull 77 = .ok (.goto (-42), 3) := by decide +kernel
theorem dX4_dull_80 : decode cX4_dull 80 = .ok (.aload_n 0, 1) := by decide +kernel
theorem dX4_dull_81 : decode cX4_dull 81 = .ok (.iload_n 1, 1) := by decide +kernel
theorem dX4_dull_82 : decode cX4_dull 82 = .ok (.invokevirtual 144, 3) := by decide +kernel
theorem dX4_dull_85 : decode cX4_dull 85 = .ok (.aload_n 0, 1) := by decide +kernel
theorem dX4_dull_86 : decode cX4_dull 86 = .ok (.aload_n 0, 1) := by decide +kernel
theorem dX4_dull_87 : decode cX4_dull 87 = .ok (.invokevirtual 151, 3) := by decide +kernel
theorem dX4_dull_90 : decode cX4_dull 90 = .ok (.ifCond .eq 11, 3) := by decide +kernel
theorem dX4_dull_93 : decode cX4_dull 93 = .ok (.iload_n 2, 1) := by decide +kernel
theorem dX4_dull_94 : decode cX4_dull 94 = .ok (.iconst 1, 1) := by decide +kernel
theorem dX4_dull_95 : decode cX4_dull 95 = .ok (.iload_n 3, 1) := by decide +kernel
theorem dX4_dull_96 : decode cX4_dull 96 = .ok (.ishl, 1) := by decide +kernel
theorem dX4_dull_97 : decode cX4_dull 97 = .ok (.ior, 1) := by decide +kernel
theorem dX4_dull_98 : decode cX4_dull 98 = .ok (.goto 4, 3) := by decide +kernel
theorem dX4_dull_101 : decode cX4_dull 101 = .ok (.iload_n 2, 1) := by decide +kernel
theorem dX4_dull_102 : decode cX4_dull 102 = .ok (.invokevirtual 93, 3) := by decide +kernel
theorem dX4_dull_105 : decode cX4_dull 105 = .ok (.istore_n 2, 1) := by decide +kernel
theorem dX4_dull_106 : decode cX4_dull 106 = .ok (.iinc 3 1, 3) := by decide +kernel
theorem dX4_dull_109 : decode cX4_dull 109 = .ok (.goto (-87), 3) := by decide +kernel
theorem dX4_dull_112 : decode cX4_dull 112 = .ok (.iload_n 2, 1) := by decide +kernel
theorem dX4_dull_113 : decode cX4_dull 113 = .ok (.ireturn, 1) := by decide +kernel
theorem dX4_feed_0 : decode cX4_feed 0 = .ok (.iload_n 2, 1) := by decide +kernel
theorem dX4_feed_1 : decode cX4_feed 1 = .ok (.i2l, 1) := by decide +kernel
theorem dX4_feed_2 : decode cX4_feed 2 = .ok (.lconst 1, 1) := by decide +kernel
theorem dX4_feed_3 : decode cX4_feed 3 = .ok (.ldc2_w 182, 3) := by decide +kernel
theorem dX4_feed_6 : decode cX4_feed 6 = .ok (.invokestatic 47, 3) := by decide +kernel
theorem dX4_feed_9 : decode cX4_feed 9 = .ok (.ifCond .ne 10, 3) := by decide +kernel
theorem dX4_feed_12 : decode cX4_feed 12 = .ok (.aload_n 0, 1) := by decide +kernel
theorem dX4_feed_13 : decode cX4_feed 13 = .ok (.ldc 44, 2) := by decide +kernel
theorem dX4_feed_15 : decode cX4_feed 15 = .ok (.invokevirtual 64, 3) := by decide +kernel
theorem dX4_feed_18 : decode cX4_feed 18 = .ok (.ireturn, 1) := by decide +kernel
theorem dX4_feed_19 : decode cX4_feed 19 = .ok (.aload_n 0, 1) := by decide +kernel
theorem dX4_feed_20 : decode cX4_feed 20 = .ok (.getfield 184, 3) := by decide +kernel
theorem dX4_feed_23 : decode cX4_feed 23 = .ok (.iload_n 2, 1) := by decide +kernel
theorem dX4_feed_24 : decode cX4_feed 24 = .ok (.iadd, 1) := by decide +kernel
theorem dX4_feed_25 : decode cX4_feed 25 = .ok (.bipush 120, 2) := by decide +kernel
theorem dX4_feed_27 : decode cX4_feed 27 = .ok (.if_icmp .le 10, 3) := by decide +kernel
theorem dX4_feed_30 : decode cX4_feed 30 = .ok (.aload_n 0, 1) := by decide +kernel
theorem dX4_feed_31 : decode cX4_feed 31 = .ok (.ldc 75, 2) := by decide +kernel
theorem dX4_feed_33 : decode cX4_feed 33 = .ok (.invokevirtual 64, 3) := by decide +kernel
theorem dX4_feed_36 : decode cX4_feed 36 = .ok (.ireturn, 1) := by decide +kernel
theorem dX4_feed_37 : decode cX4_feed 37 = .ok (.iload_n 2, 1) := by decide +kernel
theorem dX4_feed_38 : decode cX4_feed 38 = .ok (.iconst 1, 1) := by decide +kernel
theorem dX4_feed_39 : decode cX4_feed 39 = .ok (.isub, 1) := by decide +kernel
theorem dX4_feed_40 : decode cX4_feed 40 = .ok (.istore_n 3, 1) := by decide +kernel
theorem dX4_feed_41 : decode cX4_feed 41 = .ok (.iload_n 3, 1) := by decide +kernel
theorem dX4_feed_42 : decode cX4_feed 42 = .ok (.ifCond .lt 38, 3) := by decide +kernel
theorem dX4_feed_45 : decode cX4_feed 45 = .ok (.aload_n 0, 1) := by decide +kernel
theorem dX4_feed_46 : decode cX4_feed 46 = .ok (.getfield 28, 3) := by decide +kernel
theorem dX4_feed_49 : decode cX4_feed 49 = .ok (.aload_n 0, 1) := by decide +kernel
theorem dX4_feed_50 : decode cX4_feed 50 = .ok (.getfield 184, 3) := by decide +kernel
theorem dX4_feed_53 : decode cX4_feed 53 = .ok (.iload_n 1, 1) := by decide +kernel
theorem dX4_feed_54 : decode cX4_feed 54 = .ok (.bipush 8, 2) := by decide +kernel
theorem dX4_feed_56 : decode cX4_feed 56 = .ok (.iload_n 3, 1) := by decide +kernel
theorem dX4_feed_57 : decode cX4_feed 57 = .ok (.imul, 1) := by decide +kernel
theorem dX4_feed_58 : decode cX4_feed 58 = .ok (.ishr, 1) := by decide +kernel
theorem dX4_feed_59 : decode cX4_feed 59 = .ok (.sipush 255, 3) := by decide +kernel
theorem dX4_feed_62 : decode cX4_feed 62 = .ok (.iand, 1) := by decide +kernel
theorem dX4_feed_63 : decode cX4_feed 63 = .ok (.iastore, 1) := by decide +kernel
theorem dX4_feed_64 : decode cX4_feed 64 = .ok (.aload_n 0, 1) := by decide +kernel
theorem dX4_feed_65 : decode cX4_feed 65 = .ok (.dup, 1) := by decide +kernel
theorem dX4_feed_66 : decode cX4_feed 66 = .ok (.getfield 184, 3) := by decide +kernel
theorem dX4_feed_69 : decode cX4_feed 69 = .ok (.iconst 1, 1) := by decide +kernel
theorem dX4_feed_70 : decode cX4_feed 70 = .ok (.iadd, 1) := by decide +kernel
theorem dX4_feed_71 : decode cX4_feed 71 = .ok (.putfield 184, 3) := by decide +kernel
theorem dX4_feed_74 : decode cX4_feed 74 = .ok (.iinc 3 (-1), 3) := by decide +kernel
theorem dX4_feed_77 : decode cX4_feed 77 = .ok (.goto (-36), 3) := by decide +kernel
theorem dX4_feed_80 : decode cX4_feed 80 = .ok (.aload_n 0, 1) := by decide +kernel
theorem dX4_feed_81 : decode cX4_feed 81 = .ok (.getfield 184, 3) := by decide +kernel
theorem dX4_feed_84 : decode cX4_feed 84 = .ok (.ireturn, 1) := by decide +kernel
theorem dX4_wipe_0 : decode cX4_wipe 0 = .ok (.aload_n 0, 1) := by decide +kernel
theorem dX4_wipe_1 : decode cX4_wipe 1 = .ok (.getfield 184, 3) := by decide +kernel
theorem dX4_wipe_4 : decode cX4_wipe 4 = .ok (.istore_n 1, 1) := by decide +kernel
theorem dX4_wipe_5 : decode cX4_wipe 5 = .ok (.aload_n 0, 1) := by decide +kernel
theorem dX4_wipe_6 : decode cX4_wipe 6 = .ok (.iconst 0, 1) := by decide +kernel
theorem dX4_wipe_7 : decode cX4_wipe 7 = .ok (.putfield 184, 3) := by decide +kernel
theorem dX4_wipe_10 : decode cX4_wipe 10 = .ok (.iload_n 1, 1) := by decide +kernel
theorem dX4_wipe_11 : decode cX4_wipe 11 = .ok (.ireturn, 1) := by decide +kernel
theorem dX4_byteAt_0 : decode cX4_byteAt 0 = .ok (.iload_n 1, 1) := by decide +kernel
theorem dX4_byteAt_1 : decode cX4_byteAt 1 = .ok (.aload_n 0, 1) := by decide +kernel
theorem dX4_byteAt_2 : decode cX4_byteAt 2 = .ok (.getfield 184, 3) := by decide +kernel
theorem dX4_byteAt_5 : decode cX4_byteAt 5 = .ok (.if_icmp .ge 12, 3) := by decide +kernel
theorem dX4_byteAt_8 : decode cX4_byteAt 8 = .ok (.aload_n 0, 1) := by decide +kernel
theorem dX4_byteAt_9 : decode cX4_byteAt 9 = .ok (.getfield 28, 3) := by decide +kernel
theorem dX4_byteAt_12 : decode cX4_byteAt 12 = .ok (.iload_n 1, 1) := by decide +kernel
theorem dX4_byteAt_13 : decode cX4_byteAt 13 = .ok (.iaload, 1) := by decide +kernel
theorem dX4_byteAt_14 : decode cX4_byteAt 14 = .ok (.goto 4, 3) := by decide +kernel
theorem dX4_byteAt_17 : decode cX4_byteAt 17 = .ok (.iconst (-1), 1) := by decide +kernel
theorem dX4_byteAt_18 : decode cX4_byteAt 18 = .ok (.ireturn, 1) := by decide +kernel
theorem dX4_isLetter_0 : decode cX4_isLetter 0 = .ok (.iload_n 0, 1) := by decide +kernel
theorem dX4_isLetter_1 : decode cX4_isLetter 1 = .ok (.i2l, 1) := by decide +kernel
theorem dX4_isLetter_2 : decode cX4_isLetter 2 = .ok (.ldc2_w 188, 3) := by decide +kernel
theorem dX4_isLetter_5 : decode cX4_isLetter 5 = .ok (.ldc2_w 190, 3) := by decide +kernel
theorem dX4_isLetter_8 : decode cX4_isLetter 8 = .ok (.invokestatic 47, 3) := by decide +kernel
theorem dX4_isLetter_11 : decode cX4_isLetter 11 = .ok (.ireturn, 1) := by decide +kernel
theorem dX4_isDigit_0 : decode cX4_isDigit 0 = .ok (.iload_n 0, 1) := by decide +kernel
theorem dX4_isDigit_1 : decode cX4_isDigit 1 = .ok (.i2l, 1) := by decide +kernel
theorem dX4_isDigit_2 : decode cX4_isDigit 2 = .ok (.ldc2_w 192, 3) := by decide +kernel
theorem dX4_isDigit_5 : decode cX4_isDigit 5 = .ok (.ldc2_w 194, 3) := by decide +kernel
theorem dX4_isDigit_8 : decode cX4_isDigit 8 = .ok (.invokestatic 47, 3) := by decide +kernel
theorem dX4_isDigit_11 : decode cX4_isDigit 11 = .ok (.ireturn, 1) := by decide +kernel
theorem dX4_token_0 : decode cX4_token 0 = .ok (.aload_n 0, 1) := by decide +kernel
theorem dX4_token_1 : decode cX4_token 1 = .ok (.aload_n 0, 1) := by decide +kernel
theorem dX4_token_2 : decode cX4_token 2 = .ok (.getfield 196, 3) := by decide +kernel
theorem dX4_token_5 : decode cX4_token 5 = .ok (.putfield 199, 3) := by decide +kernel
theorem dX4_token_8 : decode cX4_token 8 = .ok (.aload_n 0, 1) := by decide +kernel
theorem dX4_token_9 : decode cX4_token 9 = .ok (.aload_n 0, 1) := by decide +kernel
theorem dX4_token_10 : decode cX4_token 10 = .ok (.getfield 199, 3) := by decide +kernel
theorem dX4_token_13 : decode cX4_token 13 = .ok (.invokevirtual 202, 3) := by decide +kernel
theorem dX4_token_16 : decode cX4_token 16 = .ok (.bipush 32, 2) := by decide +kernel
theorem dX4_token_18 : decode cX4_token 18 = .ok (.if_icmp .ne 16, 3) := by decide +kernel
theorem dX4_token_21 : decode cX4_token 21 = .ok (.aload_n 0, 1) := by decide +kernel
theorem dX4_token_22 : decode cX4_token 22 = .ok (.dup, 1) := by decide +kernel
theorem dX4_token_23 : decode cX4_token 23 = .ok (.getfield 199, 3) := by decide +kernel
theorem dX4_token_26 : decode cX4_token 26 = .ok (.iconst 1, 1) := by decide +kernel
theorem dX4_token_27 : decode cX4_token 27 = .ok (.iadd, 1) := by decide +kernel
theorem dX4_token_28 : decode cX4_token 28 = .ok (.putfield 199, 3) := by decide +kernel
theorem dX4_token_31 : decode cX4_token 31 = .ok (.goto (-23), 3) := by decide +kernel
theorem dX4_token_34 : decode cX4_token 34 = .ok (.aload_n 0, 1) := by decide +kernel
theorem dX4_token_35 : decode cX4_token 35 = .ok (.aload_n 0, 1) := by decide +kernel
theorem dX4_token_36 : decode cX4_token 36 = .ok (.getfield 199, 3) := by decide +kernel
theorem dX4_token_39 : decode cX4_token 39 = .ok (.invokevirtual 202, 3) := by decide +kernel
theorem dX4_token_42 : decode cX4_token 42 = .ok (.invokestatic 205, 3) := by decide +kernel
theorem dX4_token_45 : decode cX4_token 45 = .ok (.istore_n 1, 1) := by decide +kernel
theorem dX4_token_46 : decode cX4_token 46 = .ok (.aload_n 0, 1) := by decide +kernel
theorem dX4_token_47 : decode cX4_token 47 = .ok (.aload_n 0, 1) := by decide +kernel
theorem dX4_token_48 : decode cX4_token 48 = .ok (.getfield 199, 3) := by decide +kernel
theorem dX4_token_51 : decode cX4_token 51 = .ok (.invokevirtual 202, 3) := by decide +kernel
theorem dX4_token_54 : decode cX4_token 54 = .ok (.invokestatic 208, 3) := by decide +kernel
theorem dX4_token_57 : decode cX4_token 57 = .ok (.istore_n 2, 1) := by decide +kernel
theorem dX4_token_58 : decode cX4_token 58 = .ok (.aload_n 0, 1) := by decide +kernel
theorem dX4_token_59 : decode cX4_token 59 = .ok (.aload_n 0, 1) := by decide +kernel
theorem dX4_token_60 : decode cX4_token 60 = .ok (.getfield 199, 3) := by decide +kernel
theorem dX4_token_63 : decode cX4_token 63 = .ok (.aload_n 0, 1) := by decide +kernel
theorem dX4_token_64 : decode cX4_token 64 = .ok (.getfield 184, 3) := by decide +kernel
theorem dX4_token_67 : decode cX4_token 67 = .ok (.if_icmp .ge 12, 3) := by decide +kernel
theorem dX4_token_70 : decode cX4_token 70 = .ok (.aload_n 0, 1) := by decide +kernel
theorem dX4_token_71 : decode cX4_token 71 = .ok (.getfield 199, 3) := by decide +kernel
theorem dX4_token_74 : decode cX4_token 74 = .ok (.iconst 1, 1) := by decide +kernel
theorem dX4_token_75 : decode cX4_token 75 = .ok (.iadd, 1) := by decide +kernel
theorem dX4_token_76 : decode cX4_token 76 = .ok (.goto 7, 3) := by decide +kernel
theorem dX4_token_79 : decode cX4_token 79 = .ok (.aload_n 0, 1) := by decide +kernel
theorem dX4_token_80 : decode cX4_token 80 = .ok (.getfield 199, 3) := by decide +kernel
theorem dX4_token_83 : decode cX4_token 83 = .ok (.putfield 196, 3) := by decide +kernel
theorem dX4_token_86 : decode cX4_token 86 = .ok (.iload_n 1, 1) := by decide +kernel
theorem dX4_token_87 : decode cX4_token 87 = .ok (.ifCond .eq 17, 3) := by decide +kernel
theorem dX4_token_90 : decode cX4_token 90 = .ok (.aload_n 0, 1) := by decide +kernel
theorem dX4_token_91 : decode cX4_token 91 = .ok (.aload_n 0, 1) := by decide +kernel
theorem dX4_token_92 : decode cX4_token 92 = .ok (.getfield 196, 3) := by decide +kernel
theorem dX4_token_95 : decode cX4_token 95 = .ok (.invokevirtual 202, 3) := by decide +kernel
theorem dX4_token_98 : decode cX4_token 98 = .ok (.invokestatic 205, 3) := by decide +kernel
theorem dX4_token_101 : decode cX4_token 101 = .ok (.ifCond .ne 21, 3) := by decide +kernel
theorem dX4_token_104 : decode cX4_token 104 = .ok (.iload_n 2, 1) := by decide +kernel
theorem dX4_token_105 : decode cX4_token 105 = .ok (.ifCond .eq 30, 3) := by decide +kernel
theorem dX4_token_108 : decode cX4_token 108 = .ok (.aload_n 0, 1) := by decide +kernel
theorem dX4_token_109 : decode cX4_token 109 = .ok (.aload_n 0, 1) := by decide +kernel
theorem dX4_token_110 : decode cX4_token 110 = .ok (.getfield 196, 3) := by decide +kernel
theorem dX4_token_113 : decode cX4_token 113 = .ok (.invokevirtual 202, 3) := by decide +kernel
theorem dX4_token_116 : decode cX4_token 116 = .ok (.invokestatic 208, 3) := by decide +kernel
theorem dX4_token_119 : decode cX4_token 119 = .ok (.ifCond .eq 16, 3) := by decide +kernel
theorem dX4_token_122 : decode cX4_token 122 = .ok (.aload_n 0, 1) := by decide +kernel
theorem dX4_token_123 : decode cX4_token 123 = .ok (.dup, 1) := by decide +kernel
theorem dX4_token_124 : decode cX4_token 124 = .ok (.getfield 196, 3) := by decide +kernel
theorem dX4_token_127 : decode cX4_token 127 = .ok (.iconst 1, 1) := by decide +kernel
theorem dX4_token_128 : decode cX4_token 128 = .ok (.iadd, 1) := by decide +kernel
theorem dX4_token_129 : decode cX4_token 129 = .ok (.putfield 196, 3) := by decide +kernel
theorem dX4_token_132 : decode cX4_token 132 = .ok (.goto (-46), 3) := by decide +kernel
theorem dX4_token_135 : decode cX4_token 135 = .ok (.return_, 1) := by decide +kernel
theorem dX4_must_0 : decode cX4_must 0 = .ok (.aload_n 0, 1) := by decide +kernel
theorem dX4_must_1 : decode cX4_must 1 = .ok (.aload_n 0, 1) := by decide +kernel
theorem dX4_must_2 : decode cX4_must 2 = .ok (.getfield 211, 3) := by decide +kernel
theorem dX4_must_5 : decode cX4_must 5 = .ok (.ifCond .ne 7, 3) := by decide +kernel
theorem dX4_must_8 : decode cX4_must 8 = .ok (.iload_n 1, 1) := by decide +kernel
theorem dX4_must_9 : decode cX4_must 9 = .ok (.ifCond .ne 7, 3) := by decide +kernel
theorem dX4_must_12 : decode cX4_must 12 = .ok (.iconst 1, 1) := by decide +kernel
theorem dX4_must_13 : decode cX4_must 13 = .ok (.goto 4, 3) := by decide +kernel
theorem dX4_must_16 : decode cX4_must 16 = .ok (.iconst 0, 1) := by decide +kernel
theorem dX4_must_17 : decode cX4_must 17 = .ok (.putfield 211, 3) := by decide +kernel
theorem dX4_must_20 : decode cX4_must 20 = .ok (.aload_n 0, 1) := by decide +kernel
theorem dX4_must_21 : decode cX4_must 21 = .ok (.getfield 211, 3) := by decide +kernel
theorem dX4_must_24 : decode cX4_must 24 = .ok (.ifCond .ne 7, 3) := by decide +kernel
theorem dX4_must_27 : decode cX4_must 27 = .ok (.aload_n 0, 1) := by decide +kernel
theorem dX4_must_28 : decode cX4_must 28 = .ok (.invokevirtual 215, 3) := by decide +kernel
theorem dX4_must_31 : decode cX4_must 31 = .ok (.return_, 1) := by decide +kernel
theorem dX4_word_0 : decode cX4_word 0 = .ok (.lconst 0, 1) := by decide +kernel
theorem dX4_word_1 : decode cX4_word 1 = .ok (.lstore_n 1, 1) := by decide +kernel
theorem dX4_word_2 : decode cX4_word 2 = .ok (.aload_n 0, 1) := by decide +kernel
theorem dX4_word_3 : decode cX4_word 3 = .ok (.getfield 199, 3) := by decide +kernel
theorem dX4_word_6 : decode cX4_word 6 = .ok (.istore_n 3, 1) := by decide +kernel
theorem dX4_word_7 : decode cX4_word 7 = .ok (.iload_n 3, 1) := by decide +kernel
theorem dX4_word_8 : decode cX4_word 8 = .ok (.aload_n 0, 1) := by decide +kernel
theorem dX4_word_9 : decode cX4_word 9 = .ok (.getfield 196, 3) := by decide +kernel
theorem dX4_word_12 : decode cX4_word 12 = .ok (.if_icmp .ge 38, 3) := by decide +kernel
theorem dX4_word_15 : decode cX4_word 15 = .ok (.lload_n 1, 1) := by decide +kernel
theorem dX4_word_16 : decode cX4_word 16 = .ok (.ldc2_w 218, 3) := by decide +kernel
theorem dX4_word_19 : decode cX4_word 19 = .ok (.lcmp, 1) := by decide +kernel
theorem dX4_word_20 : decode cX4_word 20 = .ok (.ifCond .le 7, 3) := by decide +kernel
theorem dX4_word_23 : decode cX4_word 23 = .ok (.lload_n 1, 1) := by decide +kernel
theorem dX4_word_24 : decode cX4_word 24 = .ok (.goto 19, 3) := by decide +kernel
theorem dX4_word_27 : decode cX4_word 27 = .ok (.ldc2_w 220, 3) := by decide +kernel
theorem dX4_word_30 : decode cX4_word 30 = .ok (.lload_n 1, 1) := by decide +kernel
theorem dX4_word_31 : decode cX4_word 31 = .ok (.lmul, 1) := by decide +kernel
theorem dX4_word_32 : decode cX4_word 32 = .ok (.aload_n 0, 1) := by decide +kernel
theorem dX4_word_33 : decode cX4_word 33 = .ok (.getfield 28, 3) := by decide +kernel
theorem dX4_word_36 : decode cX4_word 36 = .ok (.iload_n 3, 1) := by decide +kernel
theorem dX4_word_37 : decode cX4_word 37 = .ok (.iaload, 1) := by decide +kernel
theorem dX4_word_38 : decode cX4_word 38 = .ok (.bipush 96, 2) := by decide +kernel
theorem dX4_word_40 : decode cX4_word 40 = .ok (.isub, 1) := by decide +kernel
theorem dX4_word_41 : decode cX4_word 41 = .ok (.i2l, 1) := by decide +kernel
theorem dX4_word_42 : decode cX4_word 42 = .ok (.ladd, 1) := by decide +kernel
theorem dX4_word_43 : decode cX4_word 43 = .ok (.lstore_n 1, 1) := by decide +kernel
theorem dX4_word_44 : decode cX4_word 44 = .ok (.iinc 3 1, 3) := by decide +kernel
theorem dX4_word_47 : decode cX4_word 47 = .ok (.goto (-40), 3) := by decide +kernel
theorem dX4_word_50 : decode cX4_word 50 = .ok (.aload_n 0, 1) := by decide +kernel
theorem dX4_word_51 : decode cX4_word 51 = .ok (.getfield 211, 3) := by decide +kernel
theorem dX4_word_54 : decode cX4_word 54 = .ok (.ifCond .ne 17, 3) := by decide +kernel
theorem dX4_word_57 : decode cX4_word 57 = .ok (.aload_n 0, 1) := by decide +kernel
theorem dX4_word_58 : decode cX4_word 58 = .ok (.aload_n 0, 1) := by decide +kernel
theorem dX4_word_59 : decode cX4_word 59 = .ok (.getfield 199, 3) := by decide +kernel
theorem dX4_word_62 : decode cX4_word 62 = .ok (.invokevirtual 202, 3) := by decide +kernel
theorem dX4_word_65 : decode cX4_word 65 = .ok (.invokestatic 205, 3) := by decide +kernel
