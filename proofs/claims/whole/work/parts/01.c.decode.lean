theorem dX0_init_0 : decode cX0_init 0 = .ok (.aload_n 0, 1) := by decide +kernel
theorem dX0_init_1 : decode cX0_init 1 = .ok (.invokespecial 3, 3) := by decide +kernel
theorem dX0_init_4 : decode cX0_init 4 = .ok (.aload_n 0, 1) := by decide +kernel
theorem dX0_init_5 : decode cX0_init 5 = .ok (.bipush 12, 2) := by decide +kernel
theorem dX0_init_7 : decode cX0_init 7 = .ok (.newarray .int, 2) := by decide +kernel
theorem dX0_init_9 : decode cX0_init 9 = .ok (.putfield 9, 3) := by decide +kernel
theorem dX0_init_12 : decode cX0_init 12 = .ok (.aload_n 0, 1) := by decide +kernel
theorem dX0_init_13 : decode cX0_init 13 = .ok (.bipush 12, 2) := by decide +kernel
theorem dX0_init_15 : decode cX0_init 15 = .ok (.newarray .int, 2) := by decide +kernel
theorem dX0_init_17 : decode cX0_init 17 = .ok (.putfield 15, 3) := by decide +kernel
theorem dX0_init_20 : decode cX0_init 20 = .ok (.aload_n 0, 1) := by decide +kernel
theorem dX0_init_21 : decode cX0_init 21 = .ok (.bipush 8, 2) := by decide +kernel
theorem dX0_init_23 : decode cX0_init 23 = .ok (.newarray .int, 2) := by decide +kernel
theorem dX0_init_25 : decode cX0_init 25 = .ok (.putfield 18, 3) := by decide +kernel
theorem dX0_init_28 : decode cX0_init 28 = .ok (.aload_n 0, 1) := by decide +kernel
theorem dX0_init_29 : decode cX0_init 29 = .ok (.bipush 8, 2) := by decide +kernel
theorem dX0_init_31 : decode cX0_init 31 = .ok (.newarray .int, 2) := by decide +kernel
theorem dX0_init_33 : decode cX0_init 33 = .ok (.putfield 21, 3) := by decide +kernel
theorem dX0_init_36 : decode cX0_init 36 = .ok (.aload_n 0, 1) := by decide +kernel
theorem dX0_init_37 : decode cX0_init 37 = .ok (.bipush 8, 2) := by decide +kernel
theorem dX0_init_39 : decode cX0_init 39 = .ok (.newarray .int, 2) := by decide +kernel
theorem dX0_init_41 : decode cX0_init 41 = .ok (.putfield 24, 3) := by decide +kernel
theorem dX0_init_44 : decode cX0_init 44 = .ok (.aload_n 0, 1) := by decide +kernel
theorem dX0_init_45 : decode cX0_init 45 = .ok (.bipush 8, 2) := by decide +kernel
theorem dX0_init_47 : decode cX0_init 47 = .ok (.newarray .int, 2) := by decide +kernel
theorem dX0_init_49 : decode cX0_init 49 = .ok (.putfield 27, 3) := by decide +kernel
theorem dX0_init_52 : decode cX0_init 52 = .ok (.aload_n 0, 1) := by decide +kernel
theorem dX0_init_53 : decode cX0_init 53 = .ok (.sipush 1000, 3) := by decide +kernel
theorem dX0_init_56 : decode cX0_init 56 = .ok (.putfield 30, 3) := by decide +kernel
theorem dX0_init_59 : decode cX0_init 59 = .ok (.aload_n 0, 1) := by decide +kernel
theorem dX0_init_60 : decode cX0_init 60 = .ok (.getfield 9, 3) := by decide +kernel
theorem dX0_init_63 : decode cX0_init 63 = .ok (.iconst 0, 1) := by decide +kernel
theorem dX0_init_64 : decode cX0_init 64 = .ok (.aload_n 0, 1) := by decide +kernel
theorem dX0_init_65 : decode cX0_init 65 = .ok (.getfield 30, 3) := by decide +kernel
theorem dX0_init_68 : decode cX0_init 68 = .ok (.iastore, 1) := by decide +kernel
theorem dX0_init_69 : decode cX0_init 69 = .ok (.return_, 1) := by decide +kernel
theorem dX0_become_0 : decode cX0_become 0 = .ok (.aload_n 1, 1) := by decide +kernel
theorem dX0_become_1 : decode cX0_become 1 = .ok (.getfield 9, 3) := by decide +kernel
theorem dX0_become_4 : decode cX0_become 4 = .ok (.iconst 0, 1) := by decide +kernel
theorem dX0_become_5 : decode cX0_become 5 = .ok (.aload_n 0, 1) := by decide +kernel
theorem dX0_become_6 : decode cX0_become 6 = .ok (.getfield 9, 3) := by decide +kernel
theorem dX0_become_9 : decode cX0_become 9 = .ok (.iconst 0, 1) := by decide +kernel
theorem dX0_become_10 : decode cX0_become 10 = .ok (.bipush 12, 2) := by decide +kernel
theorem dX0_become_12 : decode cX0_become 12 = .ok (.invokestatic 34, 3) := by decide +kernel
theorem dX0_become_15 : decode cX0_become 15 = .ok (.aload_n 1, 1) := by decide +kernel
theorem dX0_become_16 : decode cX0_become 16 = .ok (.getfield 18, 3) := by decide +kernel
theorem dX0_become_19 : decode cX0_become 19 = .ok (.iconst 0, 1) := by decide +kernel
theorem dX0_become_20 : decode cX0_become 20 = .ok (.aload_n 0, 1) := by decide +kernel
theorem dX0_become_21 : decode cX0_become 21 = .ok (.getfield 18, 3) := by decide +kernel
theorem dX0_become_24 : decode cX0_become 24 = .ok (.iconst 0, 1) := by decide +kernel
theorem dX0_become_25 : decode cX0_become 25 = .ok (.bipush 8, 2) := by decide +kernel
theorem dX0_become_27 : decode cX0_become 27 = .ok (.invokestatic 34, 3) := by decide +kernel
theorem dX0_become_30 : decode cX0_become 30 = .ok (.aload_n 1, 1) := by decide +kernel
theorem dX0_become_31 : decode cX0_become 31 = .ok (.getfield 21, 3) := by decide +kernel
theorem dX0_become_34 : decode cX0_become 34 = .ok (.iconst 0, 1) := by decide +kernel
theorem dX0_become_35 : decode cX0_become 35 = .ok (.aload_n 0, 1) := by decide +kernel
theorem dX0_become_36 : decode cX0_become 36 = .ok (.getfield 21, 3) := by decide +kernel
theorem dX0_become_39 : decode cX0_become 39 = .ok (.iconst 0, 1) := by decide +kernel
theorem dX0_become_40 : decode cX0_become 40 = .ok (.bipush 8, 2) := by decide +kernel
theorem dX0_become_42 : decode cX0_become 42 = .ok (.invokestatic 34, 3) := by decide +kernel
theorem dX0_become_45 : decode cX0_become 45 = .ok (.aload_n 1, 1) := by decide +kernel
theorem dX0_become_46 : decode cX0_become 46 = .ok (.getfield 24, 3) := by decide +kernel
theorem dX0_become_49 : decode cX0_become 49 = .ok (.iconst 0, 1) := by decide +kernel
theorem dX0_become_50 : decode cX0_become 50 = .ok (.aload_n 0, 1) := by decide +kernel
theorem dX0_become_51 : decode cX0_become 51 = .ok (.getfield 24, 3) := by decide +kernel
theorem dX0_become_54 : decode cX0_become 54 = .ok (.iconst 0, 1) := by decide +kernel
theorem dX0_become_55 : decode cX0_become 55 = .ok (.bipush 8, 2) := by decide +kernel
theorem dX0_become_57 : decode cX0_become 57 = .ok (.invokestatic 34, 3) := by decide +kernel
theorem dX0_become_60 : decode cX0_become 60 = .ok (.aload_n 1, 1) := by decide +kernel
theorem dX0_become_61 : decode cX0_become 61 = .ok (.getfield 27, 3) := by decide +kernel
theorem dX0_become_64 : decode cX0_become 64 = .ok (.iconst 0, 1) := by decide +kernel
theorem dX0_become_65 : decode cX0_become 65 = .ok (.aload_n 0, 1) := by decide +kernel
theorem dX0_become_66 : decode cX0_become 66 = .ok (.getfield 27, 3) := by decide +kernel
theorem dX0_become_69 : decode cX0_become 69 = .ok (.iconst 0, 1) := by decide +kernel
theorem dX0_become_70 : decode cX0_become 70 = .ok (.bipush 8, 2) := by decide +kernel
theorem dX0_become_72 : decode cX0_become 72 = .ok (.invokestatic 34, 3) := by decide +kernel
theorem dX0_become_75 : decode cX0_become 75 = .ok (.aload_n 0, 1) := by decide +kernel
theorem dX0_become_76 : decode cX0_become 76 = .ok (.aload_n 1, 1) := by decide +kernel
theorem dX0_become_77 : decode cX0_become 77 = .ok (.getfield 30, 3) := by decide +kernel
theorem dX0_become_80 : decode cX0_become 80 = .ok (.putfield 30, 3) := by decide +kernel
theorem dX0_become_83 : decode cX0_become 83 = .ok (.aload_n 0, 1) := by decide +kernel
theorem dX0_become_84 : decode cX0_become 84 = .ok (.aload_n 1, 1) := by decide +kernel
theorem dX0_become_85 : decode cX0_become 85 = .ok (.getfield 40, 3) := by decide +kernel
theorem dX0_become_88 : decode cX0_become 88 = .ok (.putfield 40, 3) := by decide +kernel
theorem dX0_become_91 : decode cX0_become 91 = .ok (.aload_n 0, 1) := by decide +kernel
theorem dX0_become_92 : decode cX0_become 92 = .ok (.aload_n 1, 1) := by decide +kernel
theorem dX0_become_93 : decode cX0_become 93 = .ok (.getfield 43, 3) := by decide +kernel
theorem dX0_become_96 : decode cX0_become 96 = .ok (.putfield 43, 3) := by decide +kernel
theorem dX0_become_99 : decode cX0_become 99 = .ok (.return_, 1) := by decide +kernel
theorem dX0_hasRoom_0 : decode cX0_hasRoom 0 = .ok (.aload_n 0, 1) := by decide +kernel
theorem dX0_hasRoom_1 : decode cX0_hasRoom 1 = .ok (.getfield 30, 3) := by decide +kernel
theorem dX0_hasRoom_4 : decode cX0_hasRoom 4 = .ok (.aload_n 0, 1) := by decide +kernel
theorem dX0_hasRoom_5 : decode cX0_hasRoom 5 = .ok (.getfield 9, 3) := by decide +kernel
theorem dX0_hasRoom_8 : decode cX0_hasRoom 8 = .ok (.iload_n 1, 1) := by decide +kernel
theorem dX0_hasRoom_9 : decode cX0_hasRoom 9 = .ok (.iaload, 1) := by decide +kernel
theorem dX0_hasRoom_10 : decode cX0_hasRoom 10 = .ok (.isub, 1) := by decide +kernel
theorem dX0_hasRoom_11 : decode cX0_hasRoom 11 = .ok (.iload_n 2, 1) := by decide +kernel
theorem dX0_hasRoom_12 : decode cX0_hasRoom 12 = .ok (.iadd, 1) := by decide +kernel
theorem dX0_hasRoom_13 : decode cX0_hasRoom 13 = .ok (.ldc 46, 2) := by decide +kernel
theorem dX0_hasRoom_15 : decode cX0_hasRoom 15 = .ok (.if_icmp .gt 7, 3) := by decide +kernel
theorem dX0_hasRoom_18 : decode cX0_hasRoom 18 = .ok (.iconst 1, 1) := by decide +kernel
theorem dX0_hasRoom_19 : decode cX0_hasRoom 19 = .ok (.goto 4, 3) := by decide +kernel
theorem dX0_hasRoom_22 : decode cX0_hasRoom 22 = .ok (.iconst 0, 1) := by decide +kernel
theorem dX0_hasRoom_23 : decode cX0_hasRoom 23 = .ok (.ireturn, 1) := by decide +kernel
theorem dX0_fill_0 : decode cX0_fill 0 = .ok (.aload_n 0, 1) := by decide +kernel
theorem dX0_fill_1 : decode cX0_fill 1 = .ok (.dup, 1) := by decide +kernel
theorem dX0_fill_2 : decode cX0_fill 2 = .ok (.getfield 30, 3) := by decide +kernel
theorem dX0_fill_5 : decode cX0_fill 5 = .ok (.iload_n 2, 1) := by decide +kernel
theorem dX0_fill_6 : decode cX0_fill 6 = .ok (.aload_n 0, 1) := by decide +kernel
theorem dX0_fill_7 : decode cX0_fill 7 = .ok (.getfield 9, 3) := by decide +kernel
theorem dX0_fill_10 : decode cX0_fill 10 = .ok (.iload_n 1, 1) := by decide +kernel
theorem dX0_fill_11 : decode cX0_fill 11 = .ok (.iaload, 1) := by decide +kernel
theorem dX0_fill_12 : decode cX0_fill 12 = .ok (.isub, 1) := by decide +kernel
theorem dX0_fill_13 : decode cX0_fill 13 = .ok (.iadd, 1) := by decide +kernel
theorem dX0_fill_14 : decode cX0_fill 14 = .ok (.putfield 30, 3) := by decide +kernel
theorem dX0_fill_17 : decode cX0_fill 17 = .ok (.aload_n 0, 1) := by decide +kernel
theorem dX0_fill_18 : decode cX0_fill 18 = .ok (.getfield 9, 3) := by decide +kernel
theorem dX0_fill_21 : decode cX0_fill 21 = .ok (.iload_n 1, 1) := by decide +kernel
theorem dX0_fill_22 : decode cX0_fill 22 = .ok (.iload_n 2, 1) := by decide +kernel
theorem dX0_fill_23 : decode cX0_fill 23 = .ok (.iastore, 1) := by decide +kernel
theorem dX0_fill_24 : decode cX0_fill 24 = .ok (.return_, 1) := by decide +kernel
theorem dX0_tasteOf_0 : decode cX0_tasteOf 0 = .ok (.aload_n 0, 1) := by decide +kernel
theorem dX0_tasteOf_1 : decode cX0_tasteOf 1 = .ok (.getfield 30, 3) := by decide +kernel
theorem dX0_tasteOf_4 : decode cX0_tasteOf 4 = .ok (.ifCond .ne 7, 3) := by decide +kernel
theorem dX0_tasteOf_7 : decode cX0_tasteOf 7 = .ok (.iconst 0, 1) := by decide +kernel
theorem dX0_tasteOf_8 : decode cX0_tasteOf 8 = .ok (.goto 18, 3) := by decide +kernel
theorem dX0_tasteOf_11 : decode cX0_tasteOf 11 = .ok (.sipush 1000, 3) := by decide +kernel
theorem dX0_tasteOf_14 : decode cX0_tasteOf 14 = .ok (.aload_n 0, 1) := by decide +kernel
theorem dX0_tasteOf_15 : decode cX0_tasteOf 15 = .ok (.getfield 9, 3) := by decide +kernel
theorem dX0_tasteOf_18 : decode cX0_tasteOf 18 = .ok (.iload_n 1, 1) := by decide +kernel
theorem dX0_tasteOf_19 : decode cX0_tasteOf 19 = .ok (.iaload, 1) := by decide +kernel
theorem dX0_tasteOf_20 : decode cX0_tasteOf 20 = .ok (.imul, 1) := by decide +kernel
theorem dX0_tasteOf_21 : decode cX0_tasteOf 21 = .ok (.aload_n 0, 1) := by decide +kernel
theorem dX0_tasteOf_22 : decode cX0_tasteOf 22 = .ok (.getfield 30, 3) := by decide +kernel
theorem dX0_tasteOf_25 : decode cX0_tasteOf 25 = .ok (.idiv, 1) := by decide +kernel
theorem dX0_tasteOf_26 : decode cX0_tasteOf 26 = .ok (.ireturn, 1) := by decide +kernel
theorem dX0_isVague_0 : decode cX0_isVague 0 = .ok (.aload_n 0, 1) := by decide +kernel
theorem dX0_isVague_1 : decode cX0_isVague 1 = .ok (.iconst 0, 1) := by decide +kernel
theorem dX0_isVague_2 : decode cX0_isVague 2 = .ok (.invokevirtual 47, 3) := by decide +kernel
theorem dX0_isVague_5 : decode cX0_isVague 5 = .ok (.sipush 500, 3) := by decide +kernel
theorem dX0_isVague_8 : decode cX0_isVague 8 = .ok (.if_icmp .le 7, 3) := by decide +kernel
theorem dX0_isVague_11 : decode cX0_isVague 11 = .ok (.iconst 1, 1) := by decide +kernel
theorem dX0_isVague_12 : decode cX0_isVague 12 = .ok (.goto 4, 3) := by decide +kernel
theorem dX0_isVague_15 : decode cX0_isVague 15 = .ok (.iconst 0, 1) := by decide +kernel
theorem dX0_isVague_16 : decode cX0_isVague 16 = .ok (.ireturn, 1) := by decide +kernel
theorem dX0_partsThere_0 : decode cX0_partsThere 0 = .ok (.iconst 0, 1) := by decide +kernel
theorem dX0_partsThere_1 : decode cX0_partsThere 1 = .ok (.istore_n 1, 1) := by decide +kernel
theorem dX0_partsThere_2 : decode cX0_partsThere 2 = .ok (.iconst 0, 1) := by decide +kernel
theorem dX0_partsThere_3 : decode cX0_partsThere 3 = .ok (.istore_n 2, 1) := by decide +kernel
theorem dX0_partsThere_4 : decode cX0_partsThere 4 = .ok (.iload_n 2, 1) := by decide +kernel
theorem dX0_partsThere_5 : decode cX0_partsThere 5 = .ok (.bipush 12, 2) := by decide +kernel
theorem dX0_partsThere_7 : decode cX0_partsThere 7 = .ok (.if_icmp .ge 24, 3) := by decide +kernel
theorem dX0_partsThere_10 : decode cX0_partsThere 10 = .ok (.aload_n 0, 1) := by decide +kernel
theorem dX0_partsThere_11 : decode cX0_partsThere 11 = .ok (.getfield 9, 3) := by decide +kernel
theorem dX0_partsThere_14 : decode cX0_partsThere 14 = .ok (.iload_n 2, 1) := by decide +kernel
theorem dX0_partsThere_15 : decode cX0_partsThere 15 = .ok (.iaload, 1) := by decide +kernel
theorem dX0_partsThere_16 : decode cX0_partsThere 16 = .ok (.ifCond .le 9, 3) := by decide +kernel
theorem dX0_partsThere_19 : decode cX0_partsThere 19 = .ok (.iload_n 1, 1) := by decide +kernel
theorem dX0_partsThere_20 : decode cX0_partsThere 20 = .ok (.iconst 1, 1) := by decide +kernel
theorem dX0_partsThere_21 : decode cX0_partsThere 21 = .ok (.iload_n 2, 1) := by decide +kernel
theorem dX0_partsThere_22 : decode cX0_partsThere 22 = .ok (.ishl, 1) := by decide +kernel
theorem dX0_partsThere_23 : decode cX0_partsThere 23 = .ok (.ior, 1) := by decide +kernel
theorem dX0_partsThere_24 : decode cX0_partsThere 24 = .ok (.istore_n 1, 1) := by decide +kernel
theorem dX0_partsThere_25 : decode cX0_partsThere 25 = .ok (.iinc 2 1, 3) := by decide +kernel
theorem dX0_partsThere_28 : decode cX0_partsThere 28 = .ok (.goto (-24), 3) := by decide +kernel
theorem dX0_partsThere_31 : decode cX0_partsThere 31 = .ok (.iload_n 1, 1) := by decide +kernel
theorem dX0_partsThere_32 : decode cX0_partsThere 32 = .ok (.ireturn, 1) := by decide +kernel
theorem dX0_fullestPart_0 : decode cX0_fullestPart 0 = .ok (.iconst 0, 1) := by decide +kernel
theorem dX0_fullestPart_1 : decode cX0_fullestPart 1 = .ok (.istore_n 1, 1) := by decide +kernel
theorem dX0_fullestPart_2 : decode cX0_fullestPart 2 = .ok (.iconst 1, 1) := by decide +kernel
theorem dX0_fullestPart_3 : decode cX0_fullestPart 3 = .ok (.istore_n 2, 1) := by decide +kernel
theorem dX0_fullestPart_4 : decode cX0_fullestPart 4 = .ok (.iload_n 2, 1) := by decide +kernel
theorem dX0_fullestPart_5 : decode cX0_fullestPart 5 = .ok (.bipush 12, 2) := by decide +kernel
theorem dX0_fullestPart_7 : decode cX0_fullestPart 7 = .ok (.if_icmp .ge 26, 3) := by decide +kernel
theorem dX0_fullestPart_10 : decode cX0_fullestPart 10 = .ok (.aload_n 0, 1) := by decide +kernel
theorem dX0_fullestPart_11 : decode cX0_fullestPart 11 = .ok (.getfield 9, 3) := by decide +kernel
theorem dX0_fullestPart_14 : decode cX0_fullestPart 14 = .ok (.iload_n 2, 1) := by decide +kernel
theorem dX0_fullestPart_15 : decode cX0_fullestPart 15 = .ok (.iaload, 1) := by decide +kernel
theorem dX0_fullestPart_16 : decode cX0_fullestPart 16 = .ok (.aload_n 0, 1) := by decide +kernel
theorem dX0_fullestPart_17 : decode cX0_fullestPart 17 = .ok (.getfield 9, 3) := by decide +kernel
theorem dX0_fullestPart_20 : decode cX0_fullestPart 20 = .ok (.iload_n 1, 1) := by decide +kernel
theorem dX0_fullestPart_21 : decode cX0_fullestPart 21 = .ok (.iaload, 1) := by decide +kernel
theorem dX0_fullestPart_22 : decode cX0_fullestPart 22 = .ok (.if_icmp .le 5, 3) := by decide +kernel
theorem dX0_fullestPart_25 : decode cX0_fullestPart 25 = .ok (.iload_n 2, 1) := by decide +kernel
theorem dX0_fullestPart_26 : decode cX0_fullestPart 26 = .ok (.istore_n 1, 1) := by decide +kernel
theorem dX0_fullestPart_27 : decode cX0_fullestPart 27 = .ok (.iinc 2 1, 3) := by decide +kernel
theorem dX0_fullestPart_30 : decode cX0_fullestPart 30 = .ok (.goto (-26), 3) := by decide +kernel
theorem dX0_fullestPart_33 : decode cX0_fullestPart 33 = .ok (.iload_n 1, 1) := by decide +kernel
theorem dX0_fullestPart_34 : decode cX0_fullestPart 34 = .ok (.ireturn, 1) := by decide +kernel
theorem dX0_leastTaste_0 : decode cX0_leastTaste 0 = .ok (.iload_n 1, 1) := by decide +kernel
theorem dX0_leastTaste_1 : decode cX0_leastTaste 1 = .ok (.ifCond .ne 7, 3) := by decide +kernel
theorem dX0_leastTaste_4 : decode cX0_leastTaste 4 = .ok (.iconst 0, 1) := by decide +kernel
theorem dX0_leastTaste_5 : decode cX0_leastTaste 5 = .ok (.goto 6, 3) := by decide +kernel
theorem dX0_leastTaste_8 : decode cX0_leastTaste 8 = .ok (.sipush 1000, 3) := by decide +kernel
theorem dX0_leastTaste_11 : decode cX0_leastTaste 11 = .ok (.istore_n 2, 1) := by decide +kernel
theorem dX0_leastTaste_12 : decode cX0_leastTaste 12 = .ok (.iconst 0, 1) := by decide +kernel
theorem dX0_leastTaste_13 : decode cX0_leastTaste 13 = .ok (.istore_n 3, 1) := by decide +kernel
theorem dX0_leastTaste_14 : decode cX0_leastTaste 14 = .ok (.iload_n 3, 1) := by decide +kernel
theorem dX0_leastTaste_15 : decode cX0_leastTaste 15 = .ok (.bipush 12, 2) := by decide +kernel
theorem dX0_leastTaste_17 : decode cX0_leastTaste 17 = .ok (.if_icmp .ge 28, 3) := by decide +kernel
theorem dX0_leastTaste_20 : decode cX0_leastTaste 20 = .ok (.iload_n 1, 1) := by decide +kernel
theorem dX0_leastTaste_21 : decode cX0_leastTaste 21 = .ok (.iload_n 3, 1) := by decide +kernel
theorem dX0_leastTaste_22 : decode cX0_leastTaste 22 = .ok (.ishr, 1) := by decide +kernel
theorem dX0_leastTaste_23 : decode cX0_leastTaste 23 = .ok (.iconst 1, 1) := by decide +kernel
theorem dX0_leastTaste_24 : decode cX0_leastTaste 24 = .ok (.iand, 1) := by decide +kernel
theorem dX0_leastTaste_25 : decode cX0_leastTaste 25 = .ok (.iconst 1, 1) := by decide +kernel
theorem dX0_leastTaste_26 : decode cX0_leastTaste 26 = .ok (.if_icmp .ne 13, 3) := by decide +kernel
theorem dX0_leastTaste_29 : decode cX0_leastTaste 29 = .ok (.iload_n 2, 1) := by decide +kernel
theorem dX0_leastTaste_30 : decode cX0_leastTaste 30 = .ok (.aload_n 0, 1) := by decide +kernel
theorem dX0_leastTaste_31 : decode cX0_leastTaste 31 = .ok (.iload_n 3, 1) := by decide +kernel
theorem dX0_leastTaste_32 : decode cX0_leastTaste 32 = .ok (.invokevirtual 47, 3) := by decide +kernel
theorem dX0_leastTaste_35 : decode cX0_leastTaste 35 = .ok (.invokestatic 51, 3) := by decide +kernel
theorem dX0_leastTaste_38 : decode cX0_leastTaste 38 = .ok (.istore_n 2, 1) := by decide +kernel
theorem dX0_leastTaste_39 : decode cX0_leastTaste 39 = .ok (.iinc 3 1, 3) := by decide +kernel
theorem dX0_leastTaste_42 : decode cX0_leastTaste 42 = .ok (.goto (-28), 3) := by decide +kernel
theorem dX0_leastTaste_45 : decode cX0_leastTaste 45 = .ok (.iload_n 2, 1) := by decide +kernel
theorem dX0_leastTaste_46 : decode cX0_leastTaste 46 = .ok (.ireturn, 1) := by decide +kernel
theorem dX0_measure_0 : decode cX0_measure 0 = .ok (.iload_n 1, 1) := by decide +kernel
theorem dX0_measure_1 : decode cX0_measure 1 = .ok (.aload_n 0, 1) := by decide +kernel
theorem dX0_measure_2 : decode cX0_measure 2 = .ok (.getfield 30, 3) := by decide +kernel
theorem dX0_measure_5 : decode cX0_measure 5 = .ok (.invokestatic 51, 3) := by decide +kernel
theorem dX0_measure_8 : decode cX0_measure 8 = .ok (.istore_n 2, 1) := by decide +kernel
theorem dX0_measure_9 : decode cX0_measure 9 = .ok (.iload_n 2, 1) := by decide +kernel
theorem dX0_measure_10 : decode cX0_measure 10 = .ok (.istore_n 3, 1) := by decide +kernel
theorem dX0_measure_11 : decode cX0_measure 11 = .ok (.iconst 0, 1) := by decide +kernel
theorem dX0_measure_12 : decode cX0_measure 12 = .ok (.istore 4, 2) := by decide +kernel
theorem dX0_measure_14 : decode cX0_measure 14 = .ok (.iload 4, 2) := by decide +kernel
theorem dX0_measure_16 : decode cX0_measure 16 = .ok (.bipush 12, 2) := by decide +kernel
theorem dX0_measure_18 : decode cX0_measure 18 = .ok (.if_icmp .ge 51, 3) := by decide +kernel
theorem dX0_measure_21 : decode cX0_measure 21 = .ok (.aload_n 0, 1) := by decide +kernel
theorem dX0_measure_22 : decode cX0_measure 22 = .ok (.getfield 15, 3) := by decide +kernel
theorem dX0_measure_25 : decode cX0_measure 25 = .ok (.iload 4, 2) := by decide +kernel
theorem dX0_measure_27 : decode cX0_measure 27 = .ok (.aload_n 0, 1) := by decide +kernel
theorem dX0_measure_28 : decode cX0_measure 28 = .ok (.getfield 30, 3) := by decide +kernel
theorem dX0_measure_31 : decode cX0_measure 31 = .ok (.ifCond .ne 7, 3) := by decide +kernel
theorem dX0_measure_34 : decode cX0_measure 34 = .ok (.iconst 0, 1) := by decide +kernel
theorem dX0_measure_35 : decode cX0_measure 35 = .ok (.goto 17, 3) := by decide +kernel
theorem dX0_measure_38 : decode cX0_measure 38 = .ok (.aload_n 0, 1) := by decide +kernel
theorem dX0_measure_39 : decode cX0_measure 39 = .ok (.getfield 9, 3) := by decide +kernel
theorem dX0_measure_42 : decode cX0_measure 42 = .ok (.iload 4, 2) := by decide +kernel
theorem dX0_measure_44 : decode cX0_measure 44 = .ok (.iaload, 1) := by decide +kernel
theorem dX0_measure_45 : decode cX0_measure 45 = .ok (.iload_n 2, 1) := by decide +kernel
theorem dX0_measure_46 : decode cX0_measure 46 = .ok (.imul, 1) := by decide +kernel
theorem dX0_measure_47 : decode cX0_measure 47 = .ok (.aload_n 0, 1) := by decide +kernel
theorem dX0_measure_48 : decode cX0_measure 48 = .ok (.getfield 30, 3) := by decide +kernel
theorem dX0_measure_51 : decode cX0_measure 51 = .ok (.idiv, 1) := by decide +kernel
theorem dX0_measure_52 : decode cX0_measure 52 = .ok (.iastore, 1) := by decide +kernel
theorem dX0_measure_53 : decode cX0_measure 53 = .ok (.iload_n 3, 1) := by decide +kernel
theorem dX0_measure_54 : decode cX0_measure 54 = .ok (.aload_n 0, 1) := by decide +kernel
theorem dX0_measure_55 : decode cX0_measure 55 = .ok (.getfield 15, 3) := by decide +kernel
theorem dX0_measure_58 : decode cX0_measure 58 = .ok (.iload 4, 2) := by decide +kernel
theorem dX0_measure_60 : decode cX0_measure 60 = .ok (.iaload, 1) := by decide +kernel
theorem dX0_measure_61 : decode cX0_measure 61 = .ok (.isub, 1) := by decide +kernel
theorem dX0_measure_62 : decode cX0_measure 62 = .ok (.istore_n 3, 1) := by decide +kernel
theorem dX0_measure_63 : decode cX0_measure 63 = .ok (.iinc 4 1, 3) := by decide +kernel
theorem dX0_measure_66 : decode cX0_measure 66 = .ok (.goto (-52), 3) := by decide +kernel
theorem dX0_measure_69 : decode cX0_measure 69 = .ok (.iconst 0, 1) := by decide +kernel
theorem dX0_measure_70 : decode cX0_measure 70 = .ok (.istore 4, 2) := by decide +kernel
theorem dX0_measure_72 : decode cX0_measure 72 = .ok (.iload 4, 2) := by decide +kernel
theorem dX0_measure_74 : decode cX0_measure 74 = .ok (.bipush 12, 2) := by decide +kernel
theorem dX0_measure_76 : decode cX0_measure 76 = .ok (.if_icmp .ge 64, 3) := by decide +kernel
theorem dX0_measure_79 : decode cX0_measure 79 = .ok (.iload_n 3, 1) := by decide +kernel
theorem dX0_measure_80 : decode cX0_measure 80 = .ok (.ifCond .le 60, 3) := by decide +kernel
theorem dX0_measure_83 : decode cX0_measure 83 = .ok (.iconst 0, 1) := by decide +kernel
theorem dX0_measure_84 : decode cX0_measure 84 = .ok (.istore 5, 2) := by decide +kernel
theorem dX0_measure_86 : decode cX0_measure 86 = .ok (.iload 5, 2) := by decide +kernel
theorem dX0_measure_88 : decode cX0_measure 88 = .ok (.bipush 12, 2) := by decide +kernel
theorem dX0_measure_90 : decode cX0_measure 90 = .ok (.if_icmp .ge 44, 3) := by decide +kernel
theorem dX0_measure_93 : decode cX0_measure 93 = .ok (.iload_n 3, 1) := by decide +kernel
theorem dX0_measure_94 : decode cX0_measure 94 = .ok (.ifCond .le 40, 3) := by decide +kernel
theorem dX0_measure_97 : decode cX0_measure 97 = .ok (.aload_n 0, 1) := by decide +kernel
theorem dX0_measure_98 : decode cX0_measure 98 = .ok (.getfield 15, 3) := by decide +kernel
theorem dX0_measure_101 : decode cX0_measure 101 = .ok (.iload 5, 2) := by decide +kernel
theorem dX0_measure_103 : decode cX0_measure 103 = .ok (.iaload, 1) := by decide +kernel
theorem dX0_measure_104 : decode cX0_measure 104 = .ok (.aload_n 0, 1) := by decide +kernel
theorem dX0_measure_105 : decode cX0_measure 105 = .ok (.getfield 9, 3) := by decide +kernel
theorem dX0_measure_108 : decode cX0_measure 108 = .ok (.iload 5, 2) := by decide +kernel
theorem dX0_measure_110 : decode cX0_measure 110 = .ok (.iaload, 1) := by decide +kernel
theorem dX0_measure_111 : decode cX0_measure 111 = .ok (.if_icmp .ge 17, 3) := by decide +kernel
theorem dX0_measure_114 : decode cX0_measure 114 = .ok (.aload_n 0, 1) := by decide +kernel
theorem dX0_measure_115 : decode cX0_measure 115 = .ok (.getfield 15, 3) := by decide +kernel
theorem dX0_measure_118 : decode cX0_measure 118 = .ok (.iload 5, 2) := by decide +kernel
theorem dX0_measure_120 : decode cX0_measure 120 = .ok (.dup2, 1) := by decide +kernel
theorem dX0_measure_121 : decode cX0_measure 121 = .ok (.iaload, 1) := by decide +kernel
theorem dX0_measure_122 : decode cX0_measure 122 = .ok (.iconst 1, 1) := by decide +kernel
theorem dX0_measure_123 : decode cX0_measure 123 = .ok (.iadd, 1) := by decide +kernel
theorem dX0_measure_124 : decode cX0_measure 124 = .ok (.iastore, 1) := by decide +kernel
theorem dX0_measure_125 : decode cX0_measure 125 = .ok (.iinc 3 (-1), 3) := by decide +kernel
theorem dX0_measure_128 : decode cX0_measure 128 = .ok (.iinc 5 1, 3) := by decide +kernel
theorem dX0_measure_131 : decode cX0_measure 131 = .ok (.goto (-45), 3) := by decide +kernel
theorem dX0_measure_134 : decode cX0_measure 134 = .ok (.iinc 4 1, 3) := by decide +kernel
theorem dX0_measure_137 : decode cX0_measure 137 = .ok (.goto (-65), 3) := by decide +kernel
theorem dX0_measure_140 : decode cX0_measure 140 = .ok (.iload_n 2, 1) := by decide +kernel
theorem dX0_measure_141 : decode cX0_measure 141 = .ok (.ireturn, 1) := by decide +kernel
theorem dX0_takeOut_0 : decode cX0_takeOut 0 = .ok (.aload_n 0, 1) := by decide +kernel
theorem dX0_takeOut_1 : decode cX0_takeOut 1 = .ok (.iload_n 1, 1) := by decide +kernel
theorem dX0_takeOut_2 : decode cX0_takeOut 2 = .ok (.invokevirtual 57, 3) := by decide +kernel
theorem dX0_takeOut_5 : decode cX0_takeOut 5 = .ok (.istore_n 2, 1) := by decide +kernel
theorem dX0_takeOut_6 : decode cX0_takeOut 6 = .ok (.iconst 0, 1) := by decide +kernel
theorem dX0_takeOut_7 : decode cX0_takeOut 7 = .ok (.istore_n 3, 1) := by decide +kernel
theorem dX0_takeOut_8 : decode cX0_takeOut 8 = .ok (.iload_n 3, 1) := by decide +kernel
theorem dX0_takeOut_9 : decode cX0_takeOut 9 = .ok (.bipush 12, 2) := by decide +kernel
theorem dX0_takeOut_11 : decode cX0_takeOut 11 = .ok (.if_icmp .ge 24, 3) := by decide +kernel
theorem dX0_takeOut_14 : decode cX0_takeOut 14 = .ok (.aload_n 0, 1) := by decide +kernel
theorem dX0_takeOut_15 : decode cX0_takeOut 15 = .ok (.getfield 9, 3) := by decide +kernel
theorem dX0_takeOut_18 : decode cX0_takeOut 18 = .ok (.iload_n 3, 1) := by decide +kernel
theorem dX0_takeOut_19 : decode cX0_takeOut 19 = .ok (.dup2, 1) := by decide +kernel
theorem dX0_takeOut_20 : decode cX0_takeOut 20 = .ok (.iaload, 1) := by decide +kernel
theorem dX0_takeOut_21 : decode cX0_takeOut 21 = .ok (.aload_n 0, 1) := by decide +kernel
theorem dX0_takeOut_22 : decode cX0_takeOut 22 = .ok (.getfield 15, 3) := by decide +kernel
theorem dX0_takeOut_25 : decode cX0_takeOut 25 = .ok (.iload_n 3, 1) := by decide +kernel
theorem dX0_takeOut_26 : decode cX0_takeOut 26 = .ok (.iaload, 1) := by decide +kernel
theorem dX0_takeOut_27 : decode cX0_takeOut 27 = .ok (.isub, 1) := by decide +kernel
theorem dX0_takeOut_28 : decode cX0_takeOut 28 = .ok (.iastore, 1) := by decide +kernel
theorem dX0_takeOut_29 : decode cX0_takeOut 29 = .ok (.iinc 3 1, 3) := by decide +kernel
theorem dX0_takeOut_32 : decode cX0_takeOut 32 = .ok (.goto (-24), 3) := by decide +kernel
theorem dX0_takeOut_35 : decode cX0_takeOut 35 = .ok (.aload_n 0, 1) := by decide +kernel
theorem dX0_takeOut_36 : decode cX0_takeOut 36 = .ok (.dup, 1) := by decide +kernel
theorem dX0_takeOut_37 : decode cX0_takeOut 37 = .ok (.getfield 30, 3) := by decide +kernel
theorem dX0_takeOut_40 : decode cX0_takeOut 40 = .ok (.iload_n 2, 1) := by decide +kernel
theorem dX0_takeOut_41 : decode cX0_takeOut 41 = .ok (.isub, 1) := by decide +kernel
theorem dX0_takeOut_42 : decode cX0_takeOut 42 = .ok (.putfield 30, 3) := by decide +kernel
theorem dX0_takeOut_45 : decode cX0_takeOut 45 = .ok (.iload_n 2, 1) := by decide +kernel
theorem dX0_takeOut_46 : decode cX0_takeOut 46 = .ok (.ireturn, 1) := by decide +kernel
theorem dX0_isStaffed_0 : decode cX0_isStaffed 0 = .ok (.aload_n 0, 1) := by decide +kernel
theorem dX0_isStaffed_1 : decode cX0_isStaffed 1 = .ok (.getfield 43, 3) := by decide +kernel
theorem dX0_isStaffed_4 : decode cX0_isStaffed 4 = .ok (.bipush 8, 2) := by decide +kernel
theorem dX0_isStaffed_6 : decode cX0_isStaffed 6 = .ok (.if_icmp .lt 7, 3) := by decide +kernel
theorem dX0_isStaffed_9 : decode cX0_isStaffed 9 = .ok (.iconst 1, 1) := by decide +kernel
theorem dX0_isStaffed_10 : decode cX0_isStaffed 10 = .ok (.goto 4, 3) := by decide +kernel
theorem dX0_isStaffed_13 : decode cX0_isStaffed 13 = .ok (.iconst 0, 1) := by decide +kernel
theorem dX0_isStaffed_14 : decode cX0_isStaffed 14 = .ok (.ireturn, 1) := by decide +kernel
theorem dX0_hire_0 : decode cX0_hire 0 = .ok (.aload_n 0, 1) := by decide +kernel
theorem dX0_hire_1 : decode cX0_hire 1 = .ok (.getfield 18, 3) := by decide +kernel
theorem dX0_hire_4 : decode cX0_hire 4 = .ok (.aload_n 0, 1) := by decide +kernel
theorem dX0_hire_5 : decode cX0_hire 5 = .ok (.getfield 43, 3) := by decide +kernel
theorem dX0_hire_8 : decode cX0_hire 8 = .ok (.iload_n 1, 1) := by decide +kernel
theorem dX0_hire_9 : decode cX0_hire 9 = .ok (.iastore, 1) := by decide +kernel
theorem dX0_hire_10 : decode cX0_hire 10 = .ok (.aload_n 0, 1) := by decide +kernel
theorem dX0_hire_11 : decode cX0_hire 11 = .ok (.getfield 21, 3) := by decide +kernel
theorem dX0_hire_14 : decode cX0_hire 14 = .ok (.aload_n 0, 1) := by decide +kernel
theorem dX0_hire_15 : decode cX0_hire 15 = .ok (.getfield 43, 3) := by decide +kernel
theorem dX0_hire_18 : decode cX0_hire 18 = .ok (.iconst 1, 1) := by decide +kernel
theorem dX0_hire_19 : decode cX0_hire 19 = .ok (.iastore, 1) := by decide +kernel
theorem dX0_hire_20 : decode cX0_hire 20 = .ok (.aload_n 0, 1) := by decide +kernel
theorem dX0_hire_21 : decode cX0_hire 21 = .ok (.getfield 24, 3) := by decide +kernel
theorem dX0_hire_24 : decode cX0_hire 24 = .ok (.aload_n 0, 1) := by decide +kernel
theorem dX0_hire_25 : decode cX0_hire 25 = .ok (.getfield 43, 3) := by decide +kernel
theorem dX0_hire_28 : decode cX0_hire 28 = .ok (.bipush 100, 2) := by decide +kernel
theorem dX0_hire_30 : decode cX0_hire 30 = .ok (.iastore, 1) := by decide +kernel
theorem dX0_hire_31 : decode cX0_hire 31 = .ok (.aload_n 0, 1) := by decide +kernel
theorem dX0_hire_32 : decode cX0_hire 32 = .ok (.getfield 27, 3) := by decide +kernel
theorem dX0_hire_35 : decode cX0_hire 35 = .ok (.aload_n 0, 1) := by decide +kernel
theorem dX0_hire_36 : decode cX0_hire 36 = .ok (.getfield 43, 3) := by decide +kernel
theorem dX0_hire_39 : decode cX0_hire 39 = .ok (.iconst 5, 1) := by decide +kernel
theorem dX0_hire_40 : decode cX0_hire 40 = .ok (.iastore, 1) := by decide +kernel
theorem dX0_hire_41 : decode cX0_hire 41 = .ok (.aload_n 0, 1) := by decide +kernel
theorem dX0_hire_42 : decode cX0_hire 42 = .ok (.dup, 1) := by decide +kernel
theorem dX0_hire_43 : decode cX0_hire 43 = .ok (.getfield 43, 3) := by decide +kernel
theorem dX0_hire_46 : decode cX0_hire 46 = .ok (.iconst 1, 1) := by decide +kernel
theorem dX0_hire_47 : decode cX0_hire 47 = .ok (.iadd, 1) := by decide +kernel
theorem dX0_hire_48 : decode cX0_hire 48 = .ok (.putfield 43, 3) := by decide +kernel
theorem dX0_hire_51 : decode cX0_hire 51 = .ok (.aload_n 0, 1) := by decide +kernel
theorem dX0_hire_52 : decode cX0_hire 52 = .ok (.getfield 43, 3) := by decide +kernel
theorem dX0_hire_55 : decode cX0_hire 55 = .ok (.iconst 1, 1) := by decide +kernel
theorem dX0_hire_56 : decode cX0_hire 56 = .ok (.isub, 1) := by decide +kernel
theorem dX0_hire_57 : decode cX0_hire 57 = .ok (.ireturn, 1) := by decide +kernel
theorem dX0_exchange_0 : decode cX0_exchange 0 = .ok (.aload_n 0, 1) := by decide +kernel
theorem dX0_exchange_1 : decode cX0_exchange 1 = .ok (.getfield 18, 3) := by decide +kernel
theorem dX0_exchange_4 : decode cX0_exchange 4 = .ok (.iload_n 1, 1) := by decide +kernel
theorem dX0_exchange_5 : decode cX0_exchange 5 = .ok (.iload_n 2, 1) := by decide +kernel
theorem dX0_exchange_6 : decode cX0_exchange 6 = .ok (.invokestatic 60, 3) := by decide +kernel
theorem dX0_exchange_9 : decode cX0_exchange 9 = .ok (.aload_n 0, 1) := by decide +kernel
theorem dX0_exchange_10 : decode cX0_exchange 10 = .ok (.getfield 21, 3) := by decide +kernel
theorem dX0_exchange_13 : decode cX0_exchange 13 = .ok (.iload_n 1, 1) := by decide +kernel
theorem dX0_exchange_14 : decode cX0_exchange 14 = .ok (.iload_n 2, 1) := by decide +kernel
theorem dX0_exchange_15 : decode cX0_exchange 15 = .ok (.invokestatic 60, 3) := by decide +kernel
theorem dX0_exchange_18 : decode cX0_exchange 18 = .ok (.aload_n 0, 1) := by decide +kernel
theorem dX0_exchange_19 : decode cX0_exchange 19 = .ok (.getfield 24, 3) := by decide +kernel
theorem dX0_exchange_22 : decode cX0_exchange 22 = .ok (.iload_n 1, 1) := by decide +kernel
theorem dX0_exchange_23 : decode cX0_exchange 23 = .ok (.iload_n 2, 1) := by decide +kernel
theorem dX0_exchange_24 : decode cX0_exchange 24 = .ok (.invokestatic 60, 3) := by decide +kernel
theorem dX0_exchange_27 : decode cX0_exchange 27 = .ok (.aload_n 0, 1) := by decide +kernel
theorem dX0_exchange_28 : decode cX0_exchange 28 = .ok (.getfield 27, 3) := by decide +kernel
theorem dX0_exchange_31 : decode cX0_exchange 31 = .ok (.iload_n 1, 1) := by decide +kernel
theorem dX0_exchange_32 : decode cX0_exchange 32 = .ok (.iload_n 2, 1) := by decide +kernel
theorem dX0_exchange_33 : decode cX0_exchange 33 = .ok (.invokestatic 60, 3) := by decide +kernel
theorem dX0_exchange_36 : decode cX0_exchange 36 = .ok (.return_, 1) := by decide +kernel
theorem dX0_exchangeIn_0 : decode cX0_exchangeIn 0 = .ok (.aload_n 0, 1) := by decide +kernel
theorem dX0_exchangeIn_1 : decode cX0_exchangeIn 1 = .ok (.iload_n 1, 1) := by decide +kernel
theorem dX0_exchangeIn_2 : decode cX0_exchangeIn 2 = .ok (.iaload, 1) := by decide +kernel
theorem dX0_exchangeIn_3 : decode cX0_exchangeIn 3 = .ok (.istore_n 3, 1) := by decide +kernel
theorem dX0_exchangeIn_4 : decode cX0_exchangeIn 4 = .ok (.aload_n 0, 1) := by decide +kernel
theorem dX0_exchangeIn_5 : decode cX0_exchangeIn 5 = .ok (.iload_n 1, 1) := by decide +kernel
theorem dX0_exchangeIn_6 : decode cX0_exchangeIn 6 = .ok (.aload_n 0, 1) := by decide +kernel
theorem dX0_exchangeIn_7 : decode cX0_exchangeIn 7 = .ok (.iload_n 2, 1) := by decide +kernel
theorem dX0_exchangeIn_8 : decode cX0_exchangeIn 8 = .ok (.iaload, 1) := by decide +kernel
theorem dX0_exchangeIn_9 : decode cX0_exchangeIn 9 = .ok (.iastore, 1) := by decide +kernel
theorem dX0_exchangeIn_10 : decode cX0_exchangeIn 10 = .ok (.aload_n 0, 1) := by decide +kernel
theorem dX0_exchangeIn_11 : decode cX0_exchangeIn 11 = .ok (.iload_n 2, 1) := by decide +kernel
theorem dX0_exchangeIn_12 : decode cX0_exchangeIn 12 = .ok (.iload_n 3, 1) := by decide +kernel
theorem dX0_exchangeIn_13 : decode cX0_exchangeIn 13 = .ok (.iastore, 1) := by decide +kernel
theorem dX0_exchangeIn_14 : decode cX0_exchangeIn 14 = .ok (.return_, 1) := by decide +kernel
theorem dX0_waterAllBut_0 : decode cX0_waterAllBut 0 = .ok (.iconst 0, 1) := by decide +kernel
theorem dX0_waterAllBut_1 : decode cX0_waterAllBut 1 = .ok (.istore_n 2, 1) := by decide +kernel
theorem dX0_waterAllBut_2 : decode cX0_waterAllBut 2 = .ok (.iload_n 2, 1) := by decide +kernel
theorem dX0_waterAllBut_3 : decode cX0_waterAllBut 3 = .ok (.aload_n 0, 1) := by decide +kernel
theorem dX0_waterAllBut_4 : decode cX0_waterAllBut 4 = .ok (.getfield 43, 3) := by decide +kernel
theorem dX0_waterAllBut_7 : decode cX0_waterAllBut 7 = .ok (.if_icmp .ge 21, 3) := by decide +kernel
theorem dX0_waterAllBut_10 : decode cX0_waterAllBut 10 = .ok (.iload_n 2, 1) := by decide +kernel
theorem dX0_waterAllBut_11 : decode cX0_waterAllBut 11 = .ok (.iload_n 1, 1) := by decide +kernel
theorem dX0_waterAllBut_12 : decode cX0_waterAllBut 12 = .ok (.if_icmp .eq 10, 3) := by decide +kernel
theorem dX0_waterAllBut_15 : decode cX0_waterAllBut 15 = .ok (.aload_n 0, 1) := by decide +kernel
theorem dX0_waterAllBut_16 : decode cX0_waterAllBut 16 = .ok (.getfield 21, 3) := by decide +kernel
theorem dX0_waterAllBut_19 : decode cX0_waterAllBut 19 = .ok (.iload_n 2, 1) := by decide +kernel
theorem dX0_waterAllBut_20 : decode cX0_waterAllBut 20 = .ok (.iconst 0, 1) := by decide +kernel
theorem dX0_waterAllBut_21 : decode cX0_waterAllBut 21 = .ok (.iastore, 1) := by decide +kernel
theorem dX0_waterAllBut_22 : decode cX0_waterAllBut 22 = .ok (.iinc 2 1, 3) := by decide +kernel
theorem dX0_waterAllBut_25 : decode cX0_waterAllBut 25 = .ok (.goto (-23), 3) := by decide +kernel
theorem dX0_waterAllBut_28 : decode cX0_waterAllBut 28 = .ok (.return_, 1) := by decide +kernel
theorem dX0_weightOfAll_0 : decode cX0_weightOfAll 0 = .ok (.iconst 0, 1) := by decide +kernel
theorem dX0_weightOfAll_1 : decode cX0_weightOfAll 1 = .ok (.istore_n 1, 1) := by decide +kernel
theorem dX0_weightOfAll_2 : decode cX0_weightOfAll 2 = .ok (.iconst 0, 1) := by decide +kernel
theorem dX0_weightOfAll_3 : decode cX0_weightOfAll 3 = .ok (.istore_n 2, 1) := by decide +kernel
theorem dX0_weightOfAll_4 : decode cX0_weightOfAll 4 = .ok (.iload_n 2, 1) := by decide +kernel
theorem dX0_weightOfAll_5 : decode cX0_weightOfAll 5 = .ok (.aload_n 0, 1) := by decide +kernel
theorem dX0_weightOfAll_6 : decode cX0_weightOfAll 6 = .ok (.getfield 43, 3) := by decide +kernel
theorem dX0_weightOfAll_9 : decode cX0_weightOfAll 9 = .ok (.if_icmp .ge 18, 3) := by decide +kernel
theorem dX0_weightOfAll_12 : decode cX0_weightOfAll 12 = .ok (.iload_n 1, 1) := by decide +kernel
theorem dX0_weightOfAll_13 : decode cX0_weightOfAll 13 = .ok (.aload_n 0, 1) := by decide +kernel
theorem dX0_weightOfAll_14 : decode cX0_weightOfAll 14 = .ok (.getfield 24, 3) := by decide +kernel
theorem dX0_weightOfAll_17 : decode cX0_weightOfAll 17 = .ok (.iload_n 2, 1) := by decide +kernel
theorem dX0_weightOfAll_18 : decode cX0_weightOfAll 18 = .ok (.iaload, 1) := by decide +kernel
theorem dX0_weightOfAll_19 : decode cX0_weightOfAll 19 = .ok (.iadd, 1) := by decide +kernel
theorem dX0_weightOfAll_20 : decode cX0_weightOfAll 20 = .ok (.istore_n 1, 1) := by decide +kernel
theorem dX0_weightOfAll_21 : decode cX0_weightOfAll 21 = .ok (.iinc 2 1, 3) := by decide +kernel
theorem dX0_weightOfAll_24 : decode cX0_weightOfAll 24 = .ok (.goto (-20), 3) := by decide +kernel
theorem dX0_weightOfAll_27 : decode cX0_weightOfAll 27 = .ok (.iload_n 1, 1) := by decide +kernel
theorem dX0_weightOfAll_28 : decode cX0_weightOfAll 28 = .ok (.ireturn, 1) := by decide +kernel
theorem dX0_whoseTurn_0 : decode cX0_whoseTurn 0 = .ok (.aload_n 0, 1) := by decide +kernel
theorem dX0_whoseTurn_1 : decode cX0_whoseTurn 1 = .ok (.getfield 43, 3) := by decide +kernel
theorem dX0_whoseTurn_4 : decode cX0_whoseTurn 4 = .ok (.ifCond .ne 7, 3) := by decide +kernel
theorem dX0_whoseTurn_7 : decode cX0_whoseTurn 7 = .ok (.iconst (-1), 1) := by decide +kernel
theorem dX0_whoseTurn_8 : decode cX0_whoseTurn 8 = .ok (.goto 12, 3) := by decide +kernel
theorem dX0_whoseTurn_11 : decode cX0_whoseTurn 11 = .ok (.aload_n 0, 1) := by decide +kernel
theorem dX0_whoseTurn_12 : decode cX0_whoseTurn 12 = .ok (.getfield 40, 3) := by decide +kernel
theorem dX0_whoseTurn_15 : decode cX0_whoseTurn 15 = .ok (.aload_n 0, 1) := by decide +kernel
theorem dX0_whoseTurn_16 : decode cX0_whoseTurn 16 = .ok (.getfield 43, 3) := by decide +kernel
theorem dX0_whoseTurn_19 : decode cX0_whoseTurn 19 = .ok (.irem, 1) := by decide +kernel
theorem dX0_whoseTurn_20 : decode cX0_whoseTurn 20 = .ok (.ireturn, 1) := by decide +kernel
theorem dX0_takesBy_0 : decode cX0_takesBy 0 = .ok (.aload_n 0, 1) := by decide +kernel
theorem dX0_takesBy_1 : decode cX0_takesBy 1 = .ok (.iload_n 1, 1) := by decide +kernel
theorem dX0_takesBy_2 : decode cX0_takesBy 2 = .ok (.invokevirtual 64, 3) := by decide +kernel
theorem dX0_takesBy_5 : decode cX0_takesBy 5 = .ok (.aload_n 0, 1) := by decide +kernel
theorem dX0_takesBy_6 : decode cX0_takesBy 6 = .ok (.getfield 30, 3) := by decide +kernel
theorem dX0_takesBy_9 : decode cX0_takesBy 9 = .ok (.invokestatic 51, 3) := by decide +kernel
theorem dX0_takesBy_12 : decode cX0_takesBy 12 = .ok (.ireturn, 1) := by decide +kernel
theorem dX0_wantsBy_0 : decode cX0_wantsBy 0 = .ok (.aload_n 0, 1) := by decide +kernel
theorem dX0_wantsBy_1 : decode cX0_wantsBy 1 = .ok (.getfield 24, 3) := by decide +kernel
theorem dX0_wantsBy_4 : decode cX0_wantsBy 4 = .ok (.iload_n 1, 1) := by decide +kernel
theorem dX0_wantsBy_5 : decode cX0_wantsBy 5 = .ok (.iaload, 1) := by decide +kernel
theorem dX0_wantsBy_6 : decode cX0_wantsBy 6 = .ok (.istore_n 2, 1) := by decide +kernel
theorem dX0_wantsBy_7 : decode cX0_wantsBy 7 = .ok (.aload_n 0, 1) := by decide +kernel
theorem dX0_wantsBy_8 : decode cX0_wantsBy 8 = .ok (.getfield 18, 3) := by decide +kernel
theorem dX0_wantsBy_11 : decode cX0_wantsBy 11 = .ok (.iload_n 1, 1) := by decide +kernel
theorem dX0_wantsBy_12 : decode cX0_wantsBy 12 = .ok (.iaload, 1) := by decide +kernel
theorem dX0_wantsBy_13 : decode cX0_wantsBy 13 = .ok (.tableswitch 69 1 5 #[35, 39, 69, 44, 62], 35) := by decide +kernel
theorem dX0_wantsBy_48 : decode cX0_wantsBy 48 = .ok (.iload_n 2, 1) := by decide +kernel
theorem dX0_wantsBy_49 : decode cX0_wantsBy 49 = .ok (.iconst 2, 1) := by decide +kernel
theorem dX0_wantsBy_50 : decode cX0_wantsBy 50 = .ok (.idiv, 1) := by decide +kernel
theorem dX0_wantsBy_51 : decode cX0_wantsBy 51 = .ok (.ireturn, 1) := by decide +kernel
theorem dX0_wantsBy_52 : decode cX0_wantsBy 52 = .ok (.iload_n 2, 1) := by decide +kernel
theorem dX0_wantsBy_53 : decode cX0_wantsBy 53 = .ok (.bipush 50, 2) := by decide +kernel
theorem dX0_wantsBy_55 : decode cX0_wantsBy 55 = .ok (.iadd, 1) := by decide +kernel
theorem dX0_wantsBy_56 : decode cX0_wantsBy 56 = .ok (.ireturn, 1) := by decide +kernel
theorem dX0_wantsBy_57 : decode cX0_wantsBy 57 = .ok (.aload_n 0, 1) := by decide +kernel
theorem dX0_wantsBy_58 : decode cX0_wantsBy 58 = .ok (.getfield 40, 3) := by decide +kernel
theorem dX0_wantsBy_61 : decode cX0_wantsBy 61 = .ok (.bipush 7, 2) := by decide +kernel
theorem dX0_wantsBy_63 : decode cX0_wantsBy 63 = .ok (.irem, 1) := by decide +kernel
theorem dX0_wantsBy_64 : decode cX0_wantsBy 64 = .ok (.ifCond .ne 7, 3) := by decide +kernel
theorem dX0_wantsBy_67 : decode cX0_wantsBy 67 = .ok (.iconst 0, 1) := by decide +kernel
theorem dX0_wantsBy_68 : decode cX0_wantsBy 68 = .ok (.goto 6, 3) := by decide +kernel
theorem dX0_wantsBy_71 : decode cX0_wantsBy 71 = .ok (.iload_n 2, 1) := by decide +kernel
theorem dX0_wantsBy_72 : decode cX0_wantsBy 72 = .ok (.iconst 2, 1) := by decide +kernel
theorem dX0_wantsBy_73 : decode cX0_wantsBy 73 = .ok (.idiv, 1) := by decide +kernel
theorem dX0_wantsBy_74 : decode cX0_wantsBy 74 = .ok (.ireturn, 1) := by decide +kernel
theorem dX0_wantsBy_75 : decode cX0_wantsBy 75 = .ok (.iconst 2, 1) := by decide +kernel
theorem dX0_wantsBy_76 : decode cX0_wantsBy 76 = .ok (.iload_n 2, 1) := by decide +kernel
theorem dX0_wantsBy_77 : decode cX0_wantsBy 77 = .ok (.bipush 50, 2) := by decide +kernel
theorem dX0_wantsBy_79 : decode cX0_wantsBy 79 = .ok (.iadd, 1) := by decide +kernel
theorem dX0_wantsBy_80 : decode cX0_wantsBy 80 = .ok (.imul, 1) := by decide +kernel
theorem dX0_wantsBy_81 : decode cX0_wantsBy 81 = .ok (.ireturn, 1) := by decide +kernel
theorem dX0_wantsBy_82 : decode cX0_wantsBy 82 = .ok (.iload_n 2, 1) := by decide +kernel
theorem dX0_wantsBy_83 : decode cX0_wantsBy 83 = .ok (.ireturn, 1) := by decide +kernel
theorem dX0_putsBy_0 : decode cX0_putsBy 0 = .ok (.iload_n 2, 1) := by decide +kernel
theorem dX0_putsBy_1 : decode cX0_putsBy 1 = .ok (.aload_n 0, 1) := by decide +kernel
theorem dX0_putsBy_2 : decode cX0_putsBy 2 = .ok (.getfield 27, 3) := by decide +kernel
theorem dX0_putsBy_5 : decode cX0_putsBy 5 = .ok (.iload_n 1, 1) := by decide +kernel
theorem dX0_putsBy_6 : decode cX0_putsBy 6 = .ok (.iaload, 1) := by decide +kernel
theorem dX0_putsBy_7 : decode cX0_putsBy 7 = .ok (.iadd, 1) := by decide +kernel
theorem dX0_putsBy_8 : decode cX0_putsBy 8 = .ok (.istore_n 3, 1) := by decide +kernel
theorem dX0_putsBy_9 : decode cX0_putsBy 9 = .ok (.aload_n 0, 1) := by decide +kernel
theorem dX0_putsBy_10 : decode cX0_putsBy 10 = .ok (.getfield 18, 3) := by decide +kernel
theorem dX0_putsBy_13 : decode cX0_putsBy 13 = .ok (.iload_n 1, 1) := by decide +kernel
theorem dX0_putsBy_14 : decode cX0_putsBy 14 = .ok (.iaload, 1) := by decide +kernel
theorem dX0_putsBy_15 : decode cX0_putsBy 15 = .ok (.tableswitch 61 2 5 #[29, 36, 38, 46], 29) := by decide +kernel
theorem dX0_putsBy_44 : decode cX0_putsBy 44 = .ok (.iload_n 3, 1) := by decide +kernel
theorem dX0_putsBy_45 : decode cX0_putsBy 45 = .ok (.iload_n 2, 1) := by decide +kernel
theorem dX0_putsBy_46 : decode cX0_putsBy 46 = .ok (.bipush 10, 2) := by decide +kernel
theorem dX0_putsBy_48 : decode cX0_putsBy 48 = .ok (.idiv, 1) := by decide +kernel
theorem dX0_putsBy_49 : decode cX0_putsBy 49 = .ok (.iadd, 1) := by decide +kernel
theorem dX0_putsBy_50 : decode cX0_putsBy 50 = .ok (.ireturn, 1) := by decide +kernel
theorem dX0_putsBy_51 : decode cX0_putsBy 51 = .ok (.iload_n 2, 1) := by decide +kernel
theorem dX0_putsBy_52 : decode cX0_putsBy 52 = .ok (.ireturn, 1) := by decide +kernel
theorem dX0_putsBy_53 : decode cX0_putsBy 53 = .ok (.iload_n 3, 1) := by decide +kernel
theorem dX0_putsBy_54 : decode cX0_putsBy 54 = .ok (.iconst 5, 1) := by decide +kernel
theorem dX0_putsBy_55 : decode cX0_putsBy 55 = .ok (.isub, 1) := by decide +kernel
theorem dX0_putsBy_56 : decode cX0_putsBy 56 = .ok (.iconst 0, 1) := by decide +kernel
theorem dX0_putsBy_57 : decode cX0_putsBy 57 = .ok (.invokestatic 67, 3) := by decide +kernel
theorem dX0_putsBy_60 : decode cX0_putsBy 60 = .ok (.ireturn, 1) := by decide +kernel
theorem dX0_putsBy_61 : decode cX0_putsBy 61 = .ok (.iload_n 3, 1) := by decide +kernel
theorem dX0_putsBy_62 : decode cX0_putsBy 62 = .ok (.iload_n 2, 1) := by decide +kernel
theorem dX0_putsBy_63 : decode cX0_putsBy 63 = .ok (.bipush 10, 2) := by decide +kernel
theorem dX0_putsBy_65 : decode cX0_putsBy 65 = .ok (.idiv, 1) := by decide +kernel
theorem dX0_putsBy_66 : decode cX0_putsBy 66 = .ok (.iadd, 1) := by decide +kernel
theorem dX0_putsBy_67 : decode cX0_putsBy 67 = .ok (.iload_n 2, 1) := by decide +kernel
theorem dX0_putsBy_68 : decode cX0_putsBy 68 = .ok (.iconst 2, 1) := by decide +kernel
theorem dX0_putsBy_69 : decode cX0_putsBy 69 = .ok (.idiv, 1) := by decide +kernel
theorem dX0_putsBy_70 : decode cX0_putsBy 70 = .ok (.isub, 1) := by decide +kernel
theorem dX0_putsBy_71 : decode cX0_putsBy 71 = .ok (.iconst 0, 1) := by decide +kernel
theorem dX0_putsBy_72 : decode cX0_putsBy 72 = .ok (.invokestatic 67, 3) := by decide +kernel
theorem dX0_putsBy_75 : decode cX0_putsBy 75 = .ok (.ireturn, 1) := by decide +kernel
theorem dX0_putsBy_76 : decode cX0_putsBy 76 = .ok (.iload_n 3, 1) := by decide +kernel
theorem dX0_putsBy_77 : decode cX0_putsBy 77 = .ok (.ireturn, 1) := by decide +kernel
theorem dX0_partPutBy_0 : decode cX0_partPutBy 0 = .ok (.aload_n 0, 1) := by decide +kernel
theorem dX0_partPutBy_1 : decode cX0_partPutBy 1 = .ok (.getfield 18, 3) := by decide +kernel
theorem dX0_partPutBy_4 : decode cX0_partPutBy 4 = .ok (.iload_n 1, 1) := by decide +kernel
theorem dX0_partPutBy_5 : decode cX0_partPutBy 5 = .ok (.iaload, 1) := by decide +kernel
theorem dX0_partPutBy_6 : decode cX0_partPutBy 6 = .ok (.tableswitch 70 3 5 #[26, 28, 48], 26) := by decide +kernel
theorem dX0_partPutBy_32 : decode cX0_partPutBy 32 = .ok (.iconst 0, 1) := by decide +kernel
theorem dX0_partPutBy_33 : decode cX0_partPutBy 33 = .ok (.ireturn, 1) := by decide +kernel
theorem dX0_partPutBy_34 : decode cX0_partPutBy 34 = .ok (.aload_n 0, 1) := by decide +kernel
theorem dX0_partPutBy_35 : decode cX0_partPutBy 35 = .ok (.getfield 40, 3) := by decide +kernel
theorem dX0_partPutBy_38 : decode cX0_partPutBy 38 = .ok (.iconst 5, 1) := by decide +kernel
theorem dX0_partPutBy_39 : decode cX0_partPutBy 39 = .ok (.irem, 1) := by decide +kernel
theorem dX0_partPutBy_40 : decode cX0_partPutBy 40 = .ok (.ifCond .ne 7, 3) := by decide +kernel
theorem dX0_partPutBy_43 : decode cX0_partPutBy 43 = .ok (.iconst 3, 1) := by decide +kernel
theorem dX0_partPutBy_44 : decode cX0_partPutBy 44 = .ok (.goto 9, 3) := by decide +kernel
theorem dX0_partPutBy_47 : decode cX0_partPutBy 47 = .ok (.aload_n 0, 1) := by decide +kernel
theorem dX0_partPutBy_48 : decode cX0_partPutBy 48 = .ok (.getfield 21, 3) := by decide +kernel
theorem dX0_partPutBy_51 : decode cX0_partPutBy 51 = .ok (.iload_n 1, 1) := by decide +kernel
theorem dX0_partPutBy_52 : decode cX0_partPutBy 52 = .ok (.iaload, 1) := by decide +kernel
theorem dX0_partPutBy_53 : decode cX0_partPutBy 53 = .ok (.ireturn, 1) := by decide +kernel
theorem dX0_partPutBy_54 : decode cX0_partPutBy 54 = .ok (.aload_n 0, 1) := by decide +kernel
theorem dX0_partPutBy_55 : decode cX0_partPutBy 55 = .ok (.getfield 30, 3) := by decide +kernel
theorem dX0_partPutBy_58 : decode cX0_partPutBy 58 = .ok (.sipush 500, 3) := by decide +kernel
theorem dX0_partPutBy_61 : decode cX0_partPutBy 61 = .ok (.if_icmp .ge 8, 3) := by decide +kernel
theorem dX0_partPutBy_64 : decode cX0_partPutBy 64 = .ok (.bipush 11, 2) := by decide +kernel
theorem dX0_partPutBy_66 : decode cX0_partPutBy 66 = .ok (.goto 9, 3) := by decide +kernel
theorem dX0_partPutBy_69 : decode cX0_partPutBy 69 = .ok (.aload_n 0, 1) := by decide +kernel
theorem dX0_partPutBy_70 : decode cX0_partPutBy 70 = .ok (.getfield 21, 3) := by decide +kernel
theorem dX0_partPutBy_73 : decode cX0_partPutBy 73 = .ok (.iload_n 1, 1) := by decide +kernel
theorem dX0_partPutBy_74 : decode cX0_partPutBy 74 = .ok (.iaload, 1) := by decide +kernel
theorem dX0_partPutBy_75 : decode cX0_partPutBy 75 = .ok (.ireturn, 1) := by decide +kernel
theorem dX0_partPutBy_76 : decode cX0_partPutBy 76 = .ok (.aload_n 0, 1) := by decide +kernel
theorem dX0_partPutBy_77 : decode cX0_partPutBy 77 = .ok (.getfield 21, 3) := by decide +kernel
theorem dX0_partPutBy_80 : decode cX0_partPutBy 80 = .ok (.iload_n 1, 1) := by decide +kernel
theorem dX0_partPutBy_81 : decode cX0_partPutBy 81 = .ok (.iaload, 1) := by decide +kernel
theorem dX0_partPutBy_82 : decode cX0_partPutBy 82 = .ok (.ireturn, 1) := by decide +kernel
theorem dX0_goOn_0 : decode cX0_goOn 0 = .ok (.iconst 0, 1) := by decide +kernel
theorem dX0_goOn_1 : decode cX0_goOn 1 = .ok (.istore_n 2, 1) := by decide +kernel
theorem dX0_goOn_2 : decode cX0_goOn 2 = .ok (.iload_n 2, 1) := by decide +kernel
theorem dX0_goOn_3 : decode cX0_goOn 3 = .ok (.iload_n 1, 1) := by decide +kernel
theorem dX0_goOn_4 : decode cX0_goOn 4 = .ok (.if_icmp .ge 39, 3) := by decide +kernel
theorem dX0_goOn_7 : decode cX0_goOn 7 = .ok (.aload_n 0, 1) := by decide +kernel
theorem dX0_goOn_8 : decode cX0_goOn 8 = .ok (.getfield 43, 3) := by decide +kernel
theorem dX0_goOn_11 : decode cX0_goOn 11 = .ok (.ifCond .le 16, 3) := by decide +kernel
theorem dX0_goOn_14 : decode cX0_goOn 14 = .ok (.aload_n 0, 1) := by decide +kernel
theorem dX0_goOn_15 : decode cX0_goOn 15 = .ok (.aload_n 0, 1) := by decide +kernel
theorem dX0_goOn_16 : decode cX0_goOn 16 = .ok (.getfield 40, 3) := by decide +kernel
theorem dX0_goOn_19 : decode cX0_goOn 19 = .ok (.aload_n 0, 1) := by decide +kernel
theorem dX0_goOn_20 : decode cX0_goOn 20 = .ok (.getfield 43, 3) := by decide +kernel
theorem dX0_goOn_23 : decode cX0_goOn 23 = .ok (.irem, 1) := by decide +kernel
theorem dX0_goOn_24 : decode cX0_goOn 24 = .ok (.invokevirtual 70, 3) := by decide +kernel
theorem dX0_goOn_27 : decode cX0_goOn 27 = .ok (.aload_n 0, 1) := by decide +kernel
theorem dX0_goOn_28 : decode cX0_goOn 28 = .ok (.dup, 1) := by decide +kernel
theorem dX0_goOn_29 : decode cX0_goOn 29 = .ok (.getfield 40, 3) := by decide +kernel
theorem dX0_goOn_32 : decode cX0_goOn 32 = .ok (.iconst 1, 1) := by decide +kernel
theorem dX0_goOn_33 : decode cX0_goOn 33 = .ok (.iadd, 1) := by decide +kernel
theorem dX0_goOn_34 : decode cX0_goOn 34 = .ok (.putfield 40, 3) := by decide +kernel
theorem dX0_goOn_37 : decode cX0_goOn 37 = .ok (.iinc 2 1, 3) := by decide +kernel
theorem dX0_goOn_40 : decode cX0_goOn 40 = .ok (.goto (-38), 3) := by decide +kernel
theorem dX0_goOn_43 : decode cX0_goOn 43 = .ok (.return_, 1) := by decide +kernel
theorem dX0_serve_0 : decode cX0_serve 0 = .ok (.aload_n 0, 1) := by decide +kernel
theorem dX0_serve_1 : decode cX0_serve 1 = .ok (.iload_n 1, 1) := by decide +kernel
theorem dX0_serve_2 : decode cX0_serve 2 = .ok (.invokevirtual 74, 3) := by decide +kernel
theorem dX0_serve_5 : decode cX0_serve 5 = .ok (.istore_n 2, 1) := by decide +kernel
theorem dX0_serve_6 : decode cX0_serve 6 = .ok (.aload_n 0, 1) := by decide +kernel
theorem dX0_serve_7 : decode cX0_serve 7 = .ok (.aload_n 0, 1) := by decide +kernel
theorem dX0_serve_8 : decode cX0_serve 8 = .ok (.iload_n 1, 1) := by decide +kernel
theorem dX0_serve_9 : decode cX0_serve 9 = .ok (.invokevirtual 77, 3) := by decide +kernel
theorem dX0_serve_12 : decode cX0_serve 12 = .ok (.invokevirtual 80, 3) := by decide +kernel
theorem dX0_serve_15 : decode cX0_serve 15 = .ok (.istore_n 3, 1) := by decide +kernel
theorem dX0_serve_16 : decode cX0_serve 16 = .ok (.aload_n 0, 1) := by decide +kernel
theorem dX0_serve_17 : decode cX0_serve 17 = .ok (.iload_n 1, 1) := by decide +kernel
theorem dX0_serve_18 : decode cX0_serve 18 = .ok (.iload_n 3, 1) := by decide +kernel
theorem dX0_serve_19 : decode cX0_serve 19 = .ok (.invokevirtual 83, 3) := by decide +kernel
theorem dX0_serve_22 : decode cX0_serve 22 = .ok (.ldc 46, 2) := by decide +kernel
theorem dX0_serve_24 : decode cX0_serve 24 = .ok (.aload_n 0, 1) := by decide +kernel
theorem dX0_serve_25 : decode cX0_serve 25 = .ok (.getfield 30, 3) := by decide +kernel
theorem dX0_serve_28 : decode cX0_serve 28 = .ok (.isub, 1) := by decide +kernel
theorem dX0_serve_29 : decode cX0_serve 29 = .ok (.invokestatic 51, 3) := by decide +kernel
theorem dX0_serve_32 : decode cX0_serve 32 = .ok (.istore 4, 2) := by decide +kernel
theorem dX0_serve_34 : decode cX0_serve 34 = .ok (.aload_n 0, 1) := by decide +kernel
theorem dX0_serve_35 : decode cX0_serve 35 = .ok (.iload_n 2, 1) := by decide +kernel
theorem dX0_serve_36 : decode cX0_serve 36 = .ok (.aload_n 0, 1) := by decide +kernel
theorem dX0_serve_37 : decode cX0_serve 37 = .ok (.getfield 9, 3) := by decide +kernel
theorem dX0_serve_40 : decode cX0_serve 40 = .ok (.iload_n 2, 1) := by decide +kernel
theorem dX0_serve_41 : decode cX0_serve 41 = .ok (.iaload, 1) := by decide +kernel
theorem dX0_serve_42 : decode cX0_serve 42 = .ok (.iload 4, 2) := by decide +kernel
theorem dX0_serve_44 : decode cX0_serve 44 = .ok (.iadd, 1) := by decide +kernel
theorem dX0_serve_45 : decode cX0_serve 45 = .ok (.invokevirtual 86, 3) := by decide +kernel
theorem dX0_serve_48 : decode cX0_serve 48 = .ok (.return_, 1) := by decide +kernel
theorem dX1_init_0 : decode cX1_init 0 = .ok (.aload_n 0, 1) := by decide +kernel
theorem dX1_init_1 : decode cX1_init 1 = .ok (.invokespecial 3, 3) := by decide +kernel
theorem dX1_init_4 : decode cX1_init 4 = .ok (.aload_n 0, 1) := by decide +kernel
theorem dX1_init_5 : decode cX1_init 5 = .ok (.bipush 40, 2) := by decide +kernel
theorem dX1_init_7 : decode cX1_init 7 = .ok (.newarray .long, 2) := by decide +kernel
theorem dX1_init_9 : decode cX1_init 9 = .ok (.putfield 9, 3) := by decide +kernel
theorem dX1_init_12 : decode cX1_init 12 = .ok (.return_, 1) := by decide +kernel
theorem dX1_layOut_0 : decode cX1_layOut 0 = .ok (.iconst 0, 1) := by decide +kernel
theorem dX1_layOut_1 : decode cX1_layOut 1 = .ok (.istore_n 3, 1) := by decide +kernel
theorem dX1_layOut_2 : decode cX1_layOut 2 = .ok (.iload_n 3, 1) := by decide +kernel
theorem dX1_layOut_3 : decode cX1_layOut 3 = .ok (.bipush 40, 2) := by decide +kernel
theorem dX1_layOut_5 : decode cX1_layOut 5 = .ok (.if_icmp .ge 16, 3) := by decide +kernel
theorem dX1_layOut_8 : decode cX1_layOut 8 = .ok (.aload_n 0, 1) := by decide +kernel
theorem dX1_layOut_9 : decode cX1_layOut 9 = .ok (.getfield 9, 3) := by decide +kernel
theorem dX1_layOut_12 : decode cX1_layOut 12 = .ok (.iload_n 3, 1) := by decide +kernel
theorem dX1_layOut_13 : decode cX1_layOut 13 = .ok (.lconst 0, 1) := by decide +kernel
theorem dX1_layOut_14 : decode cX1_layOut 14 = .ok (.lastore, 1) := by decide +kernel
theorem dX1_layOut_15 : decode cX1_layOut 15 = .ok (.iinc 3 1, 3) := by decide +kernel
theorem dX1_layOut_18 : decode cX1_layOut 18 = .ok (.goto (-16), 3) := by decide +kernel
theorem dX1_layOut_21 : decode cX1_layOut 21 = .ok (.aload_n 0, 1) := by decide +kernel
theorem dX1_layOut_22 : decode cX1_layOut 22 = .ok (.iload_n 1, 1) := by decide +kernel
theorem dX1_layOut_23 : decode cX1_layOut 23 = .ok (.putfield 15, 3) := by decide +kernel
theorem dX1_layOut_26 : decode cX1_layOut 26 = .ok (.aload_n 0, 1) := by decide +kernel
theorem dX1_layOut_27 : decode cX1_layOut 27 = .ok (.iload_n 2, 1) := by decide +kernel
theorem dX1_layOut_28 : decode cX1_layOut 28 = .ok (.putfield 19, 3) := by decide +kernel
theorem dX1_layOut_31 : decode cX1_layOut 31 = .ok (.return_, 1) := by decide +kernel
theorem dX1_isMissing_0 : decode cX1_isMissing 0 = .ok (.aload_n 0, 1) := by decide +kernel
theorem dX1_isMissing_1 : decode cX1_isMissing 1 = .ok (.getfield 15, 3) := by decide +kernel
theorem dX1_isMissing_4 : decode cX1_isMissing 4 = .ok (.ifCond .ne 7, 3) := by decide +kernel
theorem dX1_isMissing_7 : decode cX1_isMissing 7 = .ok (.iconst 1, 1) := by decide +kernel
theorem dX1_isMissing_8 : decode cX1_isMissing 8 = .ok (.goto 4, 3) := by decide +kernel
theorem dX1_isMissing_11 : decode cX1_isMissing 11 = .ok (.iconst 0, 1) := by decide +kernel
theorem dX1_isMissing_12 : decode cX1_isMissing 12 = .ok (.ireturn, 1) := by decide +kernel
theorem dX1_hasRun_0 : decode cX1_hasRun 0 = .ok (.iload_n 1, 1) := by decide +kernel
theorem dX1_hasRun_1 : decode cX1_hasRun 1 = .ok (.ifCond .lt 29, 3) := by decide +kernel
theorem dX1_hasRun_4 : decode cX1_hasRun 4 = .ok (.iload_n 2, 1) := by decide +kernel
theorem dX1_hasRun_5 : decode cX1_hasRun 5 = .ok (.ifCond .lt 25, 3) := by decide +kernel
theorem dX1_hasRun_8 : decode cX1_hasRun 8 = .ok (.iload_n 1, 1) := by decide +kernel
theorem dX1_hasRun_9 : decode cX1_hasRun 9 = .ok (.aload_n 0, 1) := by decide +kernel
theorem dX1_hasRun_10 : decode cX1_hasRun 10 = .ok (.getfield 19, 3) := by decide +kernel
theorem dX1_hasRun_13 : decode cX1_hasRun 13 = .ok (.if_icmp .gt 17, 3) := by decide +kernel
theorem dX1_hasRun_16 : decode cX1_hasRun 16 = .ok (.iload_n 2, 1) := by decide +kernel
theorem dX1_hasRun_17 : decode cX1_hasRun 17 = .ok (.aload_n 0, 1) := by decide +kernel
theorem dX1_hasRun_18 : decode cX1_hasRun 18 = .ok (.getfield 19, 3) := by decide +kernel
theorem dX1_hasRun_21 : decode cX1_hasRun 21 = .ok (.iload_n 1, 1) := by decide +kernel
theorem dX1_hasRun_22 : decode cX1_hasRun 22 = .ok (.isub, 1) := by decide +kernel
theorem dX1_hasRun_23 : decode cX1_hasRun 23 = .ok (.if_icmp .gt 7, 3) := by decide +kernel
theorem dX1_hasRun_26 : decode cX1_hasRun 26 = .ok (.iconst 1, 1) := by decide +kernel
theorem dX1_hasRun_27 : decode cX1_hasRun 27 = .ok (.goto 4, 3) := by decide +kernel
theorem dX1_hasRun_30 : decode cX1_hasRun 30 = .ok (.iconst 0, 1) := by decide +kernel
theorem dX1_hasRun_31 : decode cX1_hasRun 31 = .ok (.ireturn, 1) := by decide +kernel
theorem dX1_put_0 : decode cX1_put 0 = .ok (.aload_n 0, 1) := by decide +kernel
theorem dX1_put_1 : decode cX1_put 1 = .ok (.getfield 15, 3) := by decide +kernel
theorem dX1_put_4 : decode cX1_put 4 = .ok (.lookupswitch 54 #[(8, 28), (16, 41)], 28) := by decide +kernel
theorem dX1_put_32 : decode cX1_put 32 = .ok (.aload_n 0, 1) := by decide +kernel
theorem dX1_put_33 : decode cX1_put 33 = .ok (.getfield 9, 3) := by decide +kernel
theorem dX1_put_36 : decode cX1_put 36 = .ok (.iload_n 1, 1) := by decide +kernel
theorem dX1_put_37 : decode cX1_put 37 = .ok (.lload_n 2, 1) := by decide +kernel
theorem dX1_put_38 : decode cX1_put 38 = .ok (.l2i, 1) := by decide +kernel
theorem dX1_put_39 : decode cX1_put 39 = .ok (.i2b, 1) := by decide +kernel
theorem dX1_put_40 : decode cX1_put 40 = .ok (.i2l, 1) := by decide +kernel
theorem dX1_put_41 : decode cX1_put 41 = .ok (.lastore, 1) := by decide +kernel
theorem dX1_put_42 : decode cX1_put 42 = .ok (.goto 23, 3) := by decide +kernel
theorem dX1_put_45 : decode cX1_put 45 = .ok (.aload_n 0, 1) := by decide +kernel
theorem dX1_put_46 : decode cX1_put 46 = .ok (.getfield 9, 3) := by decide +kernel
theorem dX1_put_49 : decode cX1_put 49 = .ok (.iload_n 1, 1) := by decide +kernel
theorem dX1_put_50 : decode cX1_put 50 = .ok (.lload_n 2, 1) := by decide +kernel
theorem dX1_put_51 : decode cX1_put 51 = .ok (.l2i, 1) := by decide +kernel
theorem dX1_put_52 : decode cX1_put 52 = .ok (.i2s, 1) := by decide +kernel
theorem dX1_put_53 : decode cX1_put 53 = .ok (.i2l, 1) := by decide +kernel
theorem dX1_put_54 : decode cX1_put 54 = .ok (.lastore, 1) := by decide +kernel
theorem dX1_put_55 : decode cX1_put 55 = .ok (.goto 10, 3) := by decide +kernel
theorem dX1_put_58 : decode cX1_put 58 = .ok (.aload_n 0, 1) := by decide +kernel
theorem dX1_put_59 : decode cX1_put 59 = .ok (.getfield 9, 3) := by decide +kernel
theorem dX1_put_62 : decode cX1_put 62 = .ok (.iload_n 1, 1) := by decide +kernel
theorem dX1_put_63 : decode cX1_put 63 = .ok (.lload_n 2, 1) := by decide +kernel
theorem dX1_put_64 : decode cX1_put 64 = .ok (.lastore, 1) := by decide +kernel
theorem dX1_put_65 : decode cX1_put 65 = .ok (.return_, 1) := by decide +kernel
theorem dX2_init_0 : decode cX2_init 0 = .ok (.aload_n 0, 1) := by decide +kernel
theorem dX2_init_1 : decode cX2_init 1 = .ok (.invokespecial 3, 3) := by decide +kernel
theorem dX2_init_4 : decode cX2_init 4 = .ok (.aload_n 0, 1) := by decide +kernel
theorem dX2_init_5 : decode cX2_init 5 = .ok (.bipush 120, 2) := by decide +kernel
theorem dX2_init_7 : decode cX2_init 7 = .ok (.newarray .byte, 2) := by decide +kernel
theorem dX2_init_9 : decode cX2_init 9 = .ok (.putfield 9, 3) := by decide +kernel
theorem dX2_init_12 : decode cX2_init 12 = .ok (.return_, 1) := by decide +kernel
theorem dX2_append_0 : decode cX2_append 0 = .ok (.aload_n 0, 1) := by decide +kernel
theorem dX2_append_1 : decode cX2_append 1 = .ok (.getfield 15, 3) := by decide +kernel
theorem dX2_append_4 : decode cX2_append 4 = .ok (.bipush 120, 2) := by decide +kernel
theorem dX2_append_6 : decode cX2_append 6 = .ok (.if_icmp .ge 23, 3) := by decide +kernel
theorem dX2_append_9 : decode cX2_append 9 = .ok (.aload_n 0, 1) := by decide +kernel
theorem dX2_append_10 : decode cX2_append 10 = .ok (.getfield 9, 3) := by decide +kernel
theorem dX2_append_13 : decode cX2_append 13 = .ok (.aload_n 0, 1) := by decide +kernel
theorem dX2_append_14 : decode cX2_append 14 = .ok (.getfield 15, 3) := by decide +kernel
theorem dX2_append_17 : decode cX2_append 17 = .ok (.iload_n 1, 1) := by decide +kernel
theorem dX2_append_18 : decode cX2_append 18 = .ok (.bastore, 1) := by decide +kernel
theorem dX2_append_19 : decode cX2_append 19 = .ok (.aload_n 0, 1) := by decide +kernel
theorem dX2_append_20 : decode cX2_append 20 = .ok (.dup, 1) := by decide +kernel
theorem dX2_append_21 : decode cX2_append 21 = .ok (.getfield 15, 3) := by decide +kernel
theorem dX2_append_24 : decode cX2_append 24 = .ok (.iconst 1, 1) := by decide +kernel
theorem dX2_append_25 : decode cX2_append 25 = .ok (.iadd, 1) := by decide +kernel
theorem dX2_append_26 : decode cX2_append 26 = .ok (.putfield 15, 3) := by decide +kernel
theorem dX2_append_29 : decode cX2_append 29 = .ok (.return_, 1) := by decide +kernel
theorem dX2_tellTo_0 : decode cX2_tellTo 0 = .ok (.aload_n 0, 1) := by decide +kernel
theorem dX2_tellTo_1 : decode cX2_tellTo 1 = .ok (.iconst 0, 1) := by decide +kernel
theorem dX2_tellTo_2 : decode cX2_tellTo 2 = .ok (.putfield 19, 3) := by decide +kernel
theorem dX2_tellTo_5 : decode cX2_tellTo 5 = .ok (.aload_n 0, 1) := by decide +kernel
theorem dX2_tellTo_6 : decode cX2_tellTo 6 = .ok (.invokevirtual 22, 3) := by decide +kernel
theorem dX2_tellTo_9 : decode cX2_tellTo 9 = .ok (.iconst 1, 1) := by decide +kernel
theorem dX2_tellTo_10 : decode cX2_tellTo 10 = .ok (.istore_n 2, 1) := by decide +kernel
theorem dX2_tellTo_11 : decode cX2_tellTo 11 = .ok (.iload_n 2, 1) := by decide +kernel
theorem dX2_tellTo_12 : decode cX2_tellTo 12 = .ok (.bipush 120, 2) := by decide +kernel
theorem dX2_tellTo_14 : decode cX2_tellTo 14 = .ok (.if_icmp .gt 44, 3) := by decide +kernel
theorem dX2_tellTo_17 : decode cX2_tellTo 17 = .ok (.aload_n 0, 1) := by decide +kernel
theorem dX2_tellTo_18 : decode cX2_tellTo 18 = .ok (.aload_n 1, 1) := by decide +kernel
theorem dX2_tellTo_19 : decode cX2_tellTo 19 = .ok (.invokevirtual 25, 3) := by decide +kernel
theorem dX2_tellTo_22 : decode cX2_tellTo 22 = .ok (.ifCond .ne 6, 3) := by decide +kernel
theorem dX2_tellTo_25 : decode cX2_tellTo 25 = .ok (.goto 33, 3) := by decide +kernel
theorem dX2_tellTo_28 : decode cX2_tellTo 28 = .ok (.aload_n 0, 1) := by decide +kernel
theorem dX2_tellTo_29 : decode cX2_tellTo 29 = .ok (.getfield 29, 3) := by decide +kernel
theorem dX2_tellTo_32 : decode cX2_tellTo 32 = .ok (.ifCond .ne 5, 3) := by decide +kernel
theorem dX2_tellTo_35 : decode cX2_tellTo 35 = .ok (.iload_n 2, 1) := by decide +kernel
theorem dX2_tellTo_36 : decode cX2_tellTo 36 = .ok (.ireturn, 1) := by decide +kernel
theorem dX2_tellTo_37 : decode cX2_tellTo 37 = .ok (.aload_n 0, 1) := by decide +kernel
theorem dX2_tellTo_38 : decode cX2_tellTo 38 = .ok (.getfield 29, 3) := by decide +kernel
theorem dX2_tellTo_41 : decode cX2_tellTo 41 = .ok (.iconst 3, 1) := by decide +kernel
theorem dX2_tellTo_42 : decode cX2_tellTo 42 = .ok (.if_icmp .eq 6, 3) := by decide +kernel
theorem dX2_tellTo_45 : decode cX2_tellTo 45 = .ok (.goto 13, 3) := by decide +kernel
theorem dX2_tellTo_48 : decode cX2_tellTo 48 = .ok (.aload_n 0, 1) := by decide +kernel
theorem dX2_tellTo_49 : decode cX2_tellTo 49 = .ok (.invokevirtual 22, 3) := by decide +kernel
theorem dX2_tellTo_52 : decode cX2_tellTo 52 = .ok (.iinc 2 1, 3) := by decide +kernel
theorem dX2_tellTo_55 : decode cX2_tellTo 55 = .ok (.goto (-44), 3) := by decide +kernel
theorem dX2_tellTo_58 : decode cX2_tellTo 58 = .ok (.iconst (-1), 1) := by decide +kernel
theorem dX2_tellTo_59 : decode cX2_tellTo 59 = .ok (.aload_n 0, 1) := by decide +kernel
theorem dX2_tellTo_60 : decode cX2_tellTo 60 = .ok (.getfield 32, 3) := by decide +kernel
theorem dX2_tellTo_63 : decode cX2_tellTo 63 = .ok (.isub, 1) := by decide +kernel
theorem dX2_tellTo_64 : decode cX2_tellTo 64 = .ok (.ireturn, 1) := by decide +kernel
theorem dX2_passItem_0 : decode cX2_passItem 0 = .ok (.aload_n 0, 1) := by decide +kernel
theorem dX2_passItem_1 : decode cX2_passItem 1 = .ok (.ldc 35, 2) := by decide +kernel
theorem dX2_passItem_3 : decode cX2_passItem 3 = .ok (.invokevirtual 37, 3) := by decide +kernel
theorem dX2_passItem_6 : decode cX2_passItem 6 = .ok (.ifCond .eq 9, 3) := by decide +kernel
theorem dX2_passItem_9 : decode cX2_passItem 9 = .ok (.aload_n 0, 1) := by decide +kernel
theorem dX2_passItem_10 : decode cX2_passItem 10 = .ok (.aload_n 1, 1) := by decide +kernel
theorem dX2_passItem_11 : decode cX2_passItem 11 = .ok (.invokevirtual 41, 3) := by decide +kernel
theorem dX2_passItem_14 : decode cX2_passItem 14 = .ok (.ireturn, 1) := by decide +kernel
theorem dX2_passItem_15 : decode cX2_passItem 15 = .ok (.aload_n 0, 1) := by decide +kernel
theorem dX2_passItem_16 : decode cX2_passItem 16 = .ok (.invokevirtual 44, 3) := by decide +kernel
theorem dX2_passItem_19 : decode cX2_passItem 19 = .ok (.istore_n 2, 1) := by decide +kernel
theorem dX2_passItem_20 : decode cX2_passItem 20 = .ok (.iload_n 2, 1) := by decide +kernel
theorem dX2_passItem_21 : decode cX2_passItem 21 = .ok (.ifCond .lt 10, 3) := by decide +kernel
theorem dX2_passItem_24 : decode cX2_passItem 24 = .ok (.aload_n 1, 1) := by decide +kernel
theorem dX2_passItem_25 : decode cX2_passItem 25 = .ok (.invokevirtual 48, 3) := by decide +kernel
theorem dX2_passItem_28 : decode cX2_passItem 28 = .ok (.ifCond .eq 5, 3) := by decide +kernel
theorem dX2_passItem_31 : decode cX2_passItem 31 = .ok (.iconst 0, 1) := by decide +kernel
theorem dX2_passItem_32 : decode cX2_passItem 32 = .ok (.ireturn, 1) := by decide +kernel
theorem dX2_passItem_33 : decode cX2_passItem 33 = .ok (.aload_n 1, 1) := by decide +kernel
theorem dX2_passItem_34 : decode cX2_passItem 34 = .ok (.iload_n 2, 1) := by decide +kernel
theorem dX2_passItem_35 : decode cX2_passItem 35 = .ok (.invokevirtual 54, 3) := by decide +kernel
theorem dX2_passItem_38 : decode cX2_passItem 38 = .ok (.istore_n 3, 1) := by decide +kernel
theorem dX2_passItem_39 : decode cX2_passItem 39 = .ok (.aload_n 0, 1) := by decide +kernel
theorem dX2_passItem_40 : decode cX2_passItem 40 = .ok (.invokevirtual 22, 3) := by decide +kernel
theorem dX2_passItem_43 : decode cX2_passItem 43 = .ok (.aload_n 0, 1) := by decide +kernel
theorem dX2_passItem_44 : decode cX2_passItem 44 = .ok (.ldc 58, 2) := by decide +kernel
theorem dX2_passItem_46 : decode cX2_passItem 46 = .ok (.aload_n 1, 1) := by decide +kernel
theorem dX2_passItem_47 : decode cX2_passItem 47 = .ok (.getfield 60, 3) := by decide +kernel
theorem dX2_passItem_50 : decode cX2_passItem 50 = .ok (.iload_n 3, 1) := by decide +kernel
theorem dX2_passItem_51 : decode cX2_passItem 51 = .ok (.bipush 11, 2) := by decide +kernel
theorem dX2_passItem_53 : decode cX2_passItem 53 = .ok (.invokevirtual 64, 3) := by decide +kernel
theorem dX2_passItem_56 : decode cX2_passItem 56 = .ok (.ifCond .eq 40, 3) := by decide +kernel
theorem dX2_passItem_59 : decode cX2_passItem 59 = .ok (.aload_n 0, 1) := by decide +kernel
theorem dX2_passItem_60 : decode cX2_passItem 60 = .ok (.ldc 68, 2) := by decide +kernel
theorem dX2_passItem_62 : decode cX2_passItem 62 = .ok (.aload_n 1, 1) := by decide +kernel
theorem dX2_passItem_63 : decode cX2_passItem 63 = .ok (.getfield 70, 3) := by decide +kernel
theorem dX2_passItem_66 : decode cX2_passItem 66 = .ok (.iload_n 3, 1) := by decide +kernel
theorem dX2_passItem_67 : decode cX2_passItem 67 = .ok (.sipush 999, 3) := by decide +kernel
theorem dX2_passItem_70 : decode cX2_passItem 70 = .ok (.invokevirtual 64, 3) := by decide +kernel
theorem dX2_passItem_73 : decode cX2_passItem 73 = .ok (.ifCond .eq 23, 3) := by decide +kernel
theorem dX2_passItem_76 : decode cX2_passItem 76 = .ok (.aload_n 0, 1) := by decide +kernel
theorem dX2_passItem_77 : decode cX2_passItem 77 = .ok (.ldc 73, 2) := by decide +kernel
theorem dX2_passItem_79 : decode cX2_passItem 79 = .ok (.aload_n 1, 1) := by decide +kernel
theorem dX2_passItem_80 : decode cX2_passItem 80 = .ok (.getfield 75, 3) := by decide +kernel
theorem dX2_passItem_83 : decode cX2_passItem 83 = .ok (.iload_n 3, 1) := by decide +kernel
theorem dX2_passItem_84 : decode cX2_passItem 84 = .ok (.bipush 9, 2) := by decide +kernel
theorem dX2_passItem_86 : decode cX2_passItem 86 = .ok (.invokevirtual 64, 3) := by decide +kernel
theorem dX2_passItem_89 : decode cX2_passItem 89 = .ok (.ifCond .eq 7, 3) := by decide +kernel
theorem dX2_passItem_92 : decode cX2_passItem 92 = .ok (.iconst 1, 1) := by decide +kernel
theorem dX2_passItem_93 : decode cX2_passItem 93 = .ok (.goto 4, 3) := by decide +kernel
theorem dX2_passItem_96 : decode cX2_passItem 96 = .ok (.iconst 0, 1) := by decide +kernel
theorem dX2_passItem_97 : decode cX2_passItem 97 = .ok (.ireturn, 1) := by decide +kernel
theorem dX2_passPart_0 : decode cX2_passPart 0 = .ok (.aload_n 0, 1) := by decide +kernel
theorem dX2_passPart_1 : decode cX2_passPart 1 = .ok (.invokevirtual 22, 3) := by decide +kernel
theorem dX2_passPart_4 : decode cX2_passPart 4 = .ok (.aload_n 0, 1) := by decide +kernel
theorem dX2_passPart_5 : decode cX2_passPart 5 = .ok (.bipush 11, 2) := by decide +kernel
theorem dX2_passPart_7 : decode cX2_passPart 7 = .ok (.invokevirtual 78, 3) := by decide +kernel
theorem dX2_passPart_10 : decode cX2_passPart 10 = .ok (.ifCond .ne 5, 3) := by decide +kernel
theorem dX2_passPart_13 : decode cX2_passPart 13 = .ok (.iconst 0, 1) := by decide +kernel
theorem dX2_passPart_14 : decode cX2_passPart 14 = .ok (.ireturn, 1) := by decide +kernel
theorem dX2_passPart_15 : decode cX2_passPart 15 = .ok (.aload_n 0, 1) := by decide +kernel
theorem dX2_passPart_16 : decode cX2_passPart 16 = .ok (.getfield 82, 3) := by decide +kernel
theorem dX2_passPart_19 : decode cX2_passPart 19 = .ok (.istore_n 2, 1) := by decide +kernel
theorem dX2_passPart_20 : decode cX2_passPart 20 = .ok (.aload_n 0, 1) := by decide +kernel
theorem dX2_passPart_21 : decode cX2_passPart 21 = .ok (.invokevirtual 22, 3) := by decide +kernel
theorem dX2_passPart_24 : decode cX2_passPart 24 = .ok (.aload_n 0, 1) := by decide +kernel
theorem dX2_passPart_25 : decode cX2_passPart 25 = .ok (.sipush 9999, 3) := by decide +kernel
theorem dX2_passPart_28 : decode cX2_passPart 28 = .ok (.invokevirtual 78, 3) := by decide +kernel
theorem dX2_passPart_31 : decode cX2_passPart 31 = .ok (.ifCond .eq 15, 3) := by decide +kernel
theorem dX2_passPart_34 : decode cX2_passPart 34 = .ok (.aload_n 1, 1) := by decide +kernel
theorem dX2_passPart_35 : decode cX2_passPart 35 = .ok (.iload_n 2, 1) := by decide +kernel
theorem dX2_passPart_36 : decode cX2_passPart 36 = .ok (.aload_n 0, 1) := by decide +kernel
theorem dX2_passPart_37 : decode cX2_passPart 37 = .ok (.getfield 82, 3) := by decide +kernel
theorem dX2_passPart_40 : decode cX2_passPart 40 = .ok (.invokevirtual 85, 3) := by decide +kernel
theorem dX2_passPart_43 : decode cX2_passPart 43 = .ok (.ifCond .ne 5, 3) := by decide +kernel
theorem dX2_passPart_46 : decode cX2_passPart 46 = .ok (.iconst 0, 1) := by decide +kernel
theorem dX2_passPart_47 : decode cX2_passPart 47 = .ok (.ireturn, 1) := by decide +kernel
theorem dX2_passPart_48 : decode cX2_passPart 48 = .ok (.aload_n 1, 1) := by decide +kernel
theorem dX2_passPart_49 : decode cX2_passPart 49 = .ok (.iload_n 2, 1) := by decide +kernel
theorem dX2_passPart_50 : decode cX2_passPart 50 = .ok (.aload_n 0, 1) := by decide +kernel
theorem dX2_passPart_51 : decode cX2_passPart 51 = .ok (.getfield 82, 3) := by decide +kernel
theorem dX2_passPart_54 : decode cX2_passPart 54 = .ok (.invokevirtual 89, 3) := by decide +kernel
theorem dX2_passPart_57 : decode cX2_passPart 57 = .ok (.aload_n 0, 1) := by decide +kernel
theorem dX2_passPart_58 : decode cX2_passPart 58 = .ok (.invokevirtual 22, 3) := by decide +kernel
theorem dX2_passPart_61 : decode cX2_passPart 61 = .ok (.iconst 1, 1) := by decide +kernel
theorem dX2_passPart_62 : decode cX2_passPart 62 = .ok (.ireturn, 1) := by decide +kernel
theorem dX2_passTrait_0 : decode cX2_passTrait 0 = .ok (.aload_n 0, 1) := by decide +kernel
theorem dX2_passTrait_1 : decode cX2_passTrait 1 = .ok (.aload_n 1, 1) := by decide +kernel
theorem dX2_passTrait_2 : decode cX2_passTrait 2 = .ok (.invokevirtual 37, 3) := by decide +kernel
theorem dX2_passTrait_5 : decode cX2_passTrait 5 = .ok (.ifCond .ne 5, 3) := by decide +kernel
theorem dX2_passTrait_8 : decode cX2_passTrait 8 = .ok (.iconst 1, 1) := by decide +kernel
theorem dX2_passTrait_9 : decode cX2_passTrait 9 = .ok (.ireturn, 1) := by decide +kernel
theorem dX2_passTrait_10 : decode cX2_passTrait 10 = .ok (.aload_n 0, 1) := by decide +kernel
theorem dX2_passTrait_11 : decode cX2_passTrait 11 = .ok (.invokevirtual 22, 3) := by decide +kernel
theorem dX2_passTrait_14 : decode cX2_passTrait 14 = .ok (.aload_n 0, 1) := by decide +kernel
theorem dX2_passTrait_15 : decode cX2_passTrait 15 = .ok (.iload 4, 2) := by decide +kernel
theorem dX2_passTrait_17 : decode cX2_passTrait 17 = .ok (.invokevirtual 78, 3) := by decide +kernel
theorem dX2_passTrait_20 : decode cX2_passTrait 20 = .ok (.ifCond .ne 5, 3) := by decide +kernel
theorem dX2_passTrait_23 : decode cX2_passTrait 23 = .ok (.iconst 0, 1) := by decide +kernel
theorem dX2_passTrait_24 : decode cX2_passTrait 24 = .ok (.ireturn, 1) := by decide +kernel
theorem dX2_passTrait_25 : decode cX2_passTrait 25 = .ok (.aload_n 2, 1) := by decide +kernel
theorem dX2_passTrait_26 : decode cX2_passTrait 26 = .ok (.iload_n 3, 1) := by decide +kernel
theorem dX2_passTrait_27 : decode cX2_passTrait 27 = .ok (.aload_n 0, 1) := by decide +kernel
theorem dX2_passTrait_28 : decode cX2_passTrait 28 = .ok (.getfield 82, 3) := by decide +kernel
theorem dX2_passTrait_31 : decode cX2_passTrait 31 = .ok (.iastore, 1) := by decide +kernel
theorem dX2_passTrait_32 : decode cX2_passTrait 32 = .ok (.aload_n 0, 1) := by decide +kernel
theorem dX2_passTrait_33 : decode cX2_passTrait 33 = .ok (.invokevirtual 22, 3) := by decide +kernel
theorem dX2_passTrait_36 : decode cX2_passTrait 36 = .ok (.iconst 1, 1) := by decide +kernel
theorem dX2_passTrait_37 : decode cX2_passTrait 37 = .ok (.ireturn, 1) := by decide +kernel
theorem dX2_kindNamed_0 : decode cX2_kindNamed 0 = .ok (.aload_n 0, 1) := by decide +kernel
theorem dX2_kindNamed_1 : decode cX2_kindNamed 1 = .ok (.ldc 93, 2) := by decide +kernel
theorem dX2_kindNamed_3 : decode cX2_kindNamed 3 = .ok (.invokevirtual 37, 3) := by decide +kernel
theorem dX2_kindNamed_6 : decode cX2_kindNamed 6 = .ok (.ifCond .eq 7, 3) := by decide +kernel
theorem dX2_kindNamed_9 : decode cX2_kindNamed 9 = .ok (.iconst 0, 1) := by decide +kernel
theorem dX2_kindNamed_10 : decode cX2_kindNamed 10 = .ok (.goto 69, 3) := by decide +kernel
theorem dX2_kindNamed_13 : decode cX2_kindNamed 13 = .ok (.aload_n 0, 1) := by decide +kernel
theorem dX2_kindNamed_14 : decode cX2_kindNamed 14 = .ok (.ldc 95, 2) := by decide +kernel
theorem dX2_kindNamed_16 : decode cX2_kindNamed 16 = .ok (.invokevirtual 37, 3) := by decide +kernel
theorem dX2_kindNamed_19 : decode cX2_kindNamed 19 = .ok (.ifCond .eq 7, 3) := by decide +kernel
theorem dX2_kindNamed_22 : decode cX2_kindNamed 22 = .ok (.iconst 1, 1) := by decide +kernel
theorem dX2_kindNamed_23 : decode cX2_kindNamed 23 = .ok (.goto 56, 3) := by decide +kernel
theorem dX2_kindNamed_26 : decode cX2_kindNamed 26 = .ok (.aload_n 0, 1) := by decide +kernel
theorem dX2_kindNamed_27 : decode cX2_kindNamed 27 = .ok (.ldc 97, 2) := by decide +kernel
theorem dX2_kindNamed_29 : decode cX2_kindNamed 29 = .ok (.invokevirtual 37, 3) := by decide +kernel
theorem dX2_kindNamed_32 : decode cX2_kindNamed 32 = .ok (.ifCond .eq 7, 3) := by decide +kernel
theorem dX2_kindNamed_35 : decode cX2_kindNamed 35 = .ok (.iconst 2, 1) := by decide +kernel
theorem dX2_kindNamed_36 : decode cX2_kindNamed 36 = .ok (.goto 43, 3) := by decide +kernel
theorem dX2_kindNamed_39 : decode cX2_kindNamed 39 = .ok (.aload_n 0, 1) := by decide +kernel
theorem dX2_kindNamed_40 : decode cX2_kindNamed 40 = .ok (.ldc 99, 2) := by decide +kernel
theorem dX2_kindNamed_42 : decode cX2_kindNamed 42 = .ok (.invokevirtual 37, 3) := by decide +kernel
theorem dX2_kindNamed_45 : decode cX2_kindNamed 45 = .ok (.ifCond .eq 7, 3) := by decide +kernel
theorem dX2_kindNamed_48 : decode cX2_kindNamed 48 = .ok (.iconst 3, 1) := by decide +kernel
theorem dX2_kindNamed_49 : decode cX2_kindNamed 49 = .ok (.goto 30, 3) := by decide +kernel
theorem dX2_kindNamed_52 : decode cX2_kindNamed 52 = .ok (.aload_n 0, 1) := by decide +kernel
theorem dX2_kindNamed_53 : decode cX2_kindNamed 53 = .ok (.ldc 101, 2) := by decide +kernel
theorem dX2_kindNamed_55 : decode cX2_kindNamed 55 = .ok (.invokevirtual 37, 3) := by decide +kernel
theorem dX2_kindNamed_58 : decode cX2_kindNamed 58 = .ok (.ifCond .eq 7, 3) := by decide +kernel
theorem dX2_kindNamed_61 : decode cX2_kindNamed 61 = .ok (.iconst 4, 1) := by decide +kernel
theorem dX2_kindNamed_62 : decode cX2_kindNamed 62 = .ok (.goto 17, 3) := by decide +kernel
theorem dX2_kindNamed_65 : decode cX2_kindNamed 65 = .ok (.aload_n 0, 1) := by decide +kernel
theorem dX2_kindNamed_66 : decode cX2_kindNamed 66 = .ok (.ldc 103, 2) := by decide +kernel
theorem dX2_kindNamed_68 : decode cX2_kindNamed 68 = .ok (.invokevirtual 37, 3) := by decide +kernel
theorem dX2_kindNamed_71 : decode cX2_kindNamed 71 = .ok (.ifCond .eq 7, 3) := by decide +kernel
theorem dX2_kindNamed_74 : decode cX2_kindNamed 74 = .ok (.iconst 5, 1) := by decide +kernel
theorem dX2_kindNamed_75 : decode cX2_kindNamed 75 = .ok (.goto 4, 3) := by decide +kernel
theorem dX2_kindNamed_78 : decode cX2_kindNamed 78 = .ok (.iconst (-1), 1) := by decide +kernel
theorem dX2_kindNamed_79 : decode cX2_kindNamed 79 = .ok (.ireturn, 1) := by decide +kernel
theorem dX2_isNumber_0 : decode cX2_isNumber 0 = .ok (.aload_n 0, 1) := by decide +kernel
theorem dX2_isNumber_1 : decode cX2_isNumber 1 = .ok (.getfield 29, 3) := by decide +kernel
theorem dX2_isNumber_4 : decode cX2_isNumber 4 = .ok (.iconst 2, 1) := by decide +kernel
theorem dX2_isNumber_5 : decode cX2_isNumber 5 = .ok (.if_icmp .ne 15, 3) := by decide +kernel
theorem dX2_isNumber_8 : decode cX2_isNumber 8 = .ok (.aload_n 0, 1) := by decide +kernel
theorem dX2_isNumber_9 : decode cX2_isNumber 9 = .ok (.getfield 82, 3) := by decide +kernel
theorem dX2_isNumber_12 : decode cX2_isNumber 12 = .ok (.iload_n 1, 1) := by decide +kernel
theorem dX2_isNumber_13 : decode cX2_isNumber 13 = .ok (.if_icmp .gt 7, 3) := by decide +kernel
theorem dX2_isNumber_16 : decode cX2_isNumber 16 = .ok (.iconst 1, 1) := by decide +kernel
theorem dX2_isNumber_17 : decode cX2_isNumber 17 = .ok (.goto 4, 3) := by decide +kernel
theorem dX2_isNumber_20 : decode cX2_isNumber 20 = .ok (.iconst 0, 1) := by decide +kernel
theorem dX2_isNumber_21 : decode cX2_isNumber 21 = .ok (.ireturn, 1) := by decide +kernel
theorem dX2_isWord_0 : decode cX2_isWord 0 = .ok (.aload_n 0, 1) := by decide +kernel
theorem dX2_isWord_1 : decode cX2_isWord 1 = .ok (.getfield 29, 3) := by decide +kernel
theorem dX2_isWord_4 : decode cX2_isWord 4 = .ok (.iconst 1, 1) := by decide +kernel
theorem dX2_isWord_5 : decode cX2_isWord 5 = .ok (.if_icmp .ne 19, 3) := by decide +kernel
theorem dX2_isWord_8 : decode cX2_isWord 8 = .ok (.aload_n 0, 1) := by decide +kernel
theorem dX2_isWord_9 : decode cX2_isWord 9 = .ok (.getfield 19, 3) := by decide +kernel
theorem dX2_isWord_12 : decode cX2_isWord 12 = .ok (.aload_n 0, 1) := by decide +kernel
theorem dX2_isWord_13 : decode cX2_isWord 13 = .ok (.getfield 32, 3) := by decide +kernel
theorem dX2_isWord_16 : decode cX2_isWord 16 = .ok (.isub, 1) := by decide +kernel
theorem dX2_isWord_17 : decode cX2_isWord 17 = .ok (.aload_n 1, 1) := by decide +kernel
theorem dX2_isWord_18 : decode cX2_isWord 18 = .ok (.invokevirtual 105, 3) := by decide +kernel
theorem dX2_isWord_21 : decode cX2_isWord 21 = .ok (.if_icmp .eq 5, 3) := by decide +kernel
theorem dX2_isWord_24 : decode cX2_isWord 24 = .ok (.iconst 0, 1) := by decide +kernel
theorem dX2_isWord_25 : decode cX2_isWord 25 = .ok (.ireturn, 1) := by decide +kernel
theorem dX2_isWord_26 : decode cX2_isWord 26 = .ok (.iconst 0, 1) := by decide +kernel
theorem dX2_isWord_27 : decode cX2_isWord 27 = .ok (.istore_n 2, 1) := by decide +kernel
theorem dX2_isWord_28 : decode cX2_isWord 28 = .ok (.iload_n 2, 1) := by decide +kernel
theorem dX2_isWord_29 : decode cX2_isWord 29 = .ok (.aload_n 1, 1) := by decide +kernel
theorem dX2_isWord_30 : decode cX2_isWord 30 = .ok (.invokevirtual 105, 3) := by decide +kernel
theorem dX2_isWord_33 : decode cX2_isWord 33 = .ok (.if_icmp .ge 30, 3) := by decide +kernel
theorem dX2_isWord_36 : decode cX2_isWord 36 = .ok (.aload_n 0, 1) := by decide +kernel
theorem dX2_isWord_37 : decode cX2_isWord 37 = .ok (.getfield 9, 3) := by decide +kernel
theorem dX2_isWord_40 : decode cX2_isWord 40 = .ok (.aload_n 0, 1) := by decide +kernel
theorem dX2_isWord_41 : decode cX2_isWord 41 = .ok (.getfield 32, 3) := by decide +kernel
theorem dX2_isWord_44 : decode cX2_isWord 44 = .ok (.iload_n 2, 1) := by decide +kernel
theorem dX2_isWord_45 : decode cX2_isWord 45 = .ok (.iadd, 1) := by decide +kernel
theorem dX2_isWord_46 : decode cX2_isWord 46 = .ok (.baload, 1) := by decide +kernel
theorem dX2_isWord_47 : decode cX2_isWord 47 = .ok (.aload_n 1, 1) := by decide +kernel
theorem dX2_isWord_48 : decode cX2_isWord 48 = .ok (.iload_n 2, 1) := by decide +kernel
theorem dX2_isWord_49 : decode cX2_isWord 49 = .ok (.invokevirtual 109, 3) := by decide +kernel
theorem dX2_isWord_52 : decode cX2_isWord 52 = .ok (.if_icmp .eq 5, 3) := by decide +kernel
theorem dX2_isWord_55 : decode cX2_isWord 55 = .ok (.iconst 0, 1) := by decide +kernel
theorem dX2_isWord_56 : decode cX2_isWord 56 = .ok (.ireturn, 1) := by decide +kernel
theorem dX2_isWord_57 : decode cX2_isWord 57 = .ok (.iinc 2 1, 3) := by decide +kernel
theorem dX2_isWord_60 : decode cX2_isWord 60 = .ok (.goto (-32), 3) := by decide +kernel
theorem dX2_isWord_63 : decode cX2_isWord 63 = .ok (.iconst 1, 1) := by decide +kernel
theorem dX2_isWord_64 : decode cX2_isWord 64 = .ok (.ireturn, 1) := by decide +kernel
theorem dX2_step_0 : decode cX2_step 0 = .ok (.aload_n 0, 1) := by decide +kernel
theorem dX2_step_1 : decode cX2_step 1 = .ok (.getfield 19, 3) := by decide +kernel
theorem dX2_step_4 : decode cX2_step 4 = .ok (.aload_n 0, 1) := by decide +kernel
theorem dX2_step_5 : decode cX2_step 5 = .ok (.getfield 15, 3) := by decide +kernel
theorem dX2_step_8 : decode cX2_step 8 = .ok (.if_icmp .ge 30, 3) := by decide +kernel
theorem dX2_step_11 : decode cX2_step 11 = .ok (.aload_n 0, 1) := by decide +kernel
theorem dX2_step_12 : decode cX2_step 12 = .ok (.getfield 9, 3) := by decide +kernel
theorem dX2_step_15 : decode cX2_step 15 = .ok (.aload_n 0, 1) := by decide +kernel
theorem dX2_step_16 : decode cX2_step 16 = .ok (.getfield 19, 3) := by decide +kernel
theorem dX2_step_19 : decode cX2_step 19 = .ok (.baload, 1) := by decide +kernel
theorem dX2_step_20 : decode cX2_step 20 = .ok (.bipush 32, 2) := by decide +kernel
theorem dX2_step_22 : decode cX2_step 22 = .ok (.if_icmp .ne 16, 3) := by decide +kernel
theorem dX2_step_25 : decode cX2_step 25 = .ok (.aload_n 0, 1) := by decide +kernel
theorem dX2_step_26 : decode cX2_step 26 = .ok (.dup, 1) := by decide +kernel
theorem dX2_step_27 : decode cX2_step 27 = .ok (.getfield 19, 3) := by decide +kernel
theorem dX2_step_30 : decode cX2_step 30 = .ok (.iconst 1, 1) := by decide +kernel
theorem dX2_step_31 : decode cX2_step 31 = .ok (.iadd, 1) := by decide +kernel
theorem dX2_step_32 : decode cX2_step 32 = .ok (.putfield 19, 3) := by decide +kernel
theorem dX2_step_35 : decode cX2_step 35 = .ok (.goto (-35), 3) := by decide +kernel
theorem dX2_step_38 : decode cX2_step 38 = .ok (.aload_n 0, 1) := by decide +kernel
theorem dX2_step_39 : decode cX2_step 39 = .ok (.aload_n 0, 1) := by decide +kernel
theorem dX2_step_40 : decode cX2_step 40 = .ok (.getfield 19, 3) := by decide +kernel
theorem dX2_step_43 : decode cX2_step 43 = .ok (.putfield 32, 3) := by decide +kernel
theorem dX2_step_46 : decode cX2_step 46 = .ok (.aload_n 0, 1) := by decide +kernel
theorem dX2_step_47 : decode cX2_step 47 = .ok (.getfield 19, 3) := by decide +kernel
theorem dX2_step_50 : decode cX2_step 50 = .ok (.aload_n 0, 1) := by decide +kernel
theorem dX2_step_51 : decode cX2_step 51 = .ok (.getfield 15, 3) := by decide +kernel
theorem dX2_step_54 : decode cX2_step 54 = .ok (.if_icmp .lt 11, 3) := by decide +kernel
theorem dX2_step_57 : decode cX2_step 57 = .ok (.aload_n 0, 1) := by decide +kernel
theorem dX2_step_58 : decode cX2_step 58 = .ok (.iconst 0, 1) := by decide +kernel
theorem dX2_step_59 : decode cX2_step 59 = .ok (.putfield 29, 3) := by decide +kernel
theorem dX2_step_62 : decode cX2_step 62 = .ok (.goto 72, 3) := by decide +kernel
theorem dX2_step_65 : decode cX2_step 65 = .ok (.aload_n 0, 1) := by decide +kernel
theorem dX2_step_66 : decode cX2_step 66 = .ok (.bipush 97, 2) := by decide +kernel
theorem dX2_step_68 : decode cX2_step 68 = .ok (.bipush 122, 2) := by decide +kernel
theorem dX2_step_70 : decode cX2_step 70 = .ok (.invokevirtual 113, 3) := by decide +kernel
theorem dX2_step_73 : decode cX2_step 73 = .ok (.ifCond .eq 10, 3) := by decide +kernel
theorem dX2_step_76 : decode cX2_step 76 = .ok (.aload_n 0, 1) := by decide +kernel
theorem dX2_step_77 : decode cX2_step 77 = .ok (.invokevirtual 117, 3) := by decide +kernel
theorem dX2_step_80 : decode cX2_step 80 = .ok (.goto 54, 3) := by decide +kernel
theorem dX2_step_83 : decode cX2_step 83 = .ok (.aload_n 0, 1) := by decide +kernel
theorem dX2_step_84 : decode cX2_step 84 = .ok (.bipush 48, 2) := by decide +kernel
theorem dX2_step_86 : decode cX2_step 86 = .ok (.bipush 57, 2) := by decide +kernel
theorem dX2_step_88 : decode cX2_step 88 = .ok (.invokevirtual 113, 3) := by decide +kernel
theorem dX2_step_91 : decode cX2_step 91 = .ok (.ifCond .eq 10, 3) := by decide +kernel
theorem dX2_step_94 : decode cX2_step 94 = .ok (.aload_n 0, 1) := by decide +kernel
theorem dX2_step_95 : decode cX2_step 95 = .ok (.invokevirtual 120, 3) := by decide +kernel
theorem dX2_step_98 : decode cX2_step 98 = .ok (.goto 36, 3) := by decide +kernel
theorem dX2_step_101 : decode cX2_step 101 = .ok (.aload_n 0, 1) := by decide +kernel
theorem dX2_step_102 : decode cX2_step 102 = .ok (.aload_n 0, 1) := by decide +kernel
theorem dX2_step_103 : decode cX2_step 103 = .ok (.getfield 9, 3) := by decide +kernel
theorem dX2_step_106 : decode cX2_step 106 = .ok (.aload_n 0, 1) := by decide +kernel
theorem dX2_step_107 : decode cX2_step 107 = .ok (.getfield 19, 3) := by decide +kernel
theorem dX2_step_110 : decode cX2_step 110 = .ok (.baload, 1) := by decide +kernel
theorem dX2_step_111 : decode cX2_step 111 = .ok (.bipush 59, 2) := by decide +kernel
theorem dX2_step_113 : decode cX2_step 113 = .ok (.if_icmp .ne 7, 3) := by decide +kernel
theorem dX2_step_116 : decode cX2_step 116 = .ok (.iconst 3, 1) := by decide +kernel
theorem dX2_step_117 : decode cX2_step 117 = .ok (.goto 4, 3) := by decide +kernel
theorem dX2_step_120 : decode cX2_step 120 = .ok (.iconst 4, 1) := by decide +kernel
theorem dX2_step_121 : decode cX2_step 121 = .ok (.putfield 29, 3) := by decide +kernel
theorem dX2_step_124 : decode cX2_step 124 = .ok (.aload_n 0, 1) := by decide +kernel
theorem dX2_step_125 : decode cX2_step 125 = .ok (.dup, 1) := by decide +kernel
theorem dX2_step_126 : decode cX2_step 126 = .ok (.getfield 19, 3) := by decide +kernel
theorem dX2_step_129 : decode cX2_step 129 = .ok (.iconst 1, 1) := by decide +kernel
theorem dX2_step_130 : decode cX2_step 130 = .ok (.iadd, 1) := by decide +kernel
theorem dX2_step_131 : decode cX2_step 131 = .ok (.putfield 19, 3) := by decide +kernel
theorem dX2_step_134 : decode cX2_step 134 = .ok (.return_, 1) := by decide +kernel
theorem dX2_stepWord_0 : decode cX2_stepWord 0 = .ok (.aload_n 0, 1) := by decide +kernel
theorem dX2_stepWord_1 : decode cX2_stepWord 1 = .ok (.iconst 1, 1) := by decide +kernel
theorem dX2_stepWord_2 : decode cX2_stepWord 2 = .ok (.putfield 29, 3) := by decide +kernel
theorem dX2_stepWord_5 : decode cX2_stepWord 5 = .ok (.aload_n 0, 1) := by decide +kernel
theorem dX2_stepWord_6 : decode cX2_stepWord 6 = .ok (.getfield 19, 3) := by decide +kernel
theorem dX2_stepWord_9 : decode cX2_stepWord 9 = .ok (.aload_n 0, 1) := by decide +kernel
theorem dX2_stepWord_10 : decode cX2_stepWord 10 = .ok (.getfield 15, 3) := by decide +kernel
theorem dX2_stepWord_13 : decode cX2_stepWord 13 = .ok (.if_icmp .ge 27, 3) := by decide +kernel
theorem dX2_stepWord_16 : decode cX2_stepWord 16 = .ok (.aload_n 0, 1) := by decide +kernel
theorem dX2_stepWord_17 : decode cX2_stepWord 17 = .ok (.bipush 97, 2) := by decide +kernel
theorem dX2_stepWord_19 : decode cX2_stepWord 19 = .ok (.bipush 122, 2) := by decide +kernel
theorem dX2_stepWord_21 : decode cX2_stepWord 21 = .ok (.invokevirtual 113, 3) := by decide +kernel
theorem dX2_stepWord_24 : decode cX2_stepWord 24 = .ok (.ifCond .eq 16, 3) := by decide +kernel
theorem dX2_stepWord_27 : decode cX2_stepWord 27 = .ok (.aload_n 0, 1) := by decide +kernel
theorem dX2_stepWord_28 : decode cX2_stepWord 28 = .ok (.dup, 1) := by decide +kernel
theorem dX2_stepWord_29 : decode cX2_stepWord 29 = .ok (.getfield 19, 3) := by decide +kernel
theorem dX2_stepWord_32 : decode cX2_stepWord 32 = .ok (.iconst 1, 1) := by decide +kernel
theorem dX2_stepWord_33 : decode cX2_stepWord 33 = .ok (.iadd, 1) := by decide +kernel
theorem dX2_stepWord_34 : decode cX2_stepWord 34 = .ok (.putfield 19, 3) := by decide +kernel
theorem dX2_stepWord_37 : decode cX2_stepWord 37 = .ok (.goto (-32), 3) := by decide +kernel
theorem dX2_stepWord_40 : decode cX2_stepWord 40 = .ok (.return_, 1) := by decide +kernel
theorem dX2_stepNumber_0 : decode cX2_stepNumber 0 = .ok (.aload_n 0, 1) := by decide +kernel
theorem dX2_stepNumber_1 : decode cX2_stepNumber 1 = .ok (.iconst 2, 1) := by decide +kernel
theorem dX2_stepNumber_2 : decode cX2_stepNumber 2 = .ok (.putfield 29, 3) := by decide +kernel
theorem dX2_stepNumber_5 : decode cX2_stepNumber 5 = .ok (.aload_n 0, 1) := by decide +kernel
theorem dX2_stepNumber_6 : decode cX2_stepNumber 6 = .ok (.iconst 0, 1) := by decide +kernel
theorem dX2_stepNumber_7 : decode cX2_stepNumber 7 = .ok (.putfield 82, 3) := by decide +kernel
theorem dX2_stepNumber_10 : decode cX2_stepNumber 10 = .ok (.aload_n 0, 1) := by decide +kernel
theorem dX2_stepNumber_11 : decode cX2_stepNumber 11 = .ok (.getfield 19, 3) := by decide +kernel
theorem dX2_stepNumber_14 : decode cX2_stepNumber 14 = .ok (.aload_n 0, 1) := by decide +kernel
theorem dX2_stepNumber_15 : decode cX2_stepNumber 15 = .ok (.getfield 15, 3) := by decide +kernel
theorem dX2_stepNumber_18 : decode cX2_stepNumber 18 = .ok (.if_icmp .ge 57, 3) := by decide +kernel
theorem dX2_stepNumber_21 : decode cX2_stepNumber 21 = .ok (.aload_n 0, 1) := by decide +kernel
theorem dX2_stepNumber_22 : decode cX2_stepNumber 22 = .ok (.bipush 48, 2) := by decide +kernel
theorem dX2_stepNumber_24 : decode cX2_stepNumber 24 = .ok (.bipush 57, 2) := by decide +kernel
theorem dX2_stepNumber_26 : decode cX2_stepNumber 26 = .ok (.invokevirtual 113, 3) := by decide +kernel
theorem dX2_stepNumber_29 : decode cX2_stepNumber 29 = .ok (.ifCond .eq 46, 3) := by decide +kernel
theorem dX2_stepNumber_32 : decode cX2_stepNumber 32 = .ok (.aload_n 0, 1) := by decide +kernel
theorem dX2_stepNumber_33 : decode cX2_stepNumber 33 = .ok (.bipush 10, 2) := by decide +kernel
theorem dX2_stepNumber_35 : decode cX2_stepNumber 35 = .ok (.aload_n 0, 1) := by decide +kernel
theorem dX2_stepNumber_36 : decode cX2_stepNumber 36 = .ok (.getfield 82, 3) := by decide +kernel
theorem dX2_stepNumber_39 : decode cX2_stepNumber 39 = .ok (.imul, 1) := by decide +kernel
theorem dX2_stepNumber_40 : decode cX2_stepNumber 40 = .ok (.aload_n 0, 1) := by decide +kernel
theorem dX2_stepNumber_41 : decode cX2_stepNumber 41 = .ok (.getfield 9, 3) := by decide +kernel
theorem dX2_stepNumber_44 : decode cX2_stepNumber 44 = .ok (.aload_n 0, 1) := by decide +kernel
theorem dX2_stepNumber_45 : decode cX2_stepNumber 45 = .ok (.getfield 19, 3) := by decide +kernel
theorem dX2_stepNumber_48 : decode cX2_stepNumber 48 = .ok (.baload, 1) := by decide +kernel
theorem dX2_stepNumber_49 : decode cX2_stepNumber 49 = .ok (.iadd, 1) := by decide +kernel
theorem dX2_stepNumber_50 : decode cX2_stepNumber 50 = .ok (.bipush 48, 2) := by decide +kernel
theorem dX2_stepNumber_52 : decode cX2_stepNumber 52 = .ok (.isub, 1) := by decide +kernel
theorem dX2_stepNumber_53 : decode cX2_stepNumber 53 = .ok (.sipush 10000, 3) := by decide +kernel
theorem dX2_stepNumber_56 : decode cX2_stepNumber 56 = .ok (.invokestatic 123, 3) := by decide +kernel
theorem dX2_stepNumber_59 : decode cX2_stepNumber 59 = .ok (.putfield 82, 3) := by decide +kernel
theorem dX2_stepNumber_62 : decode cX2_stepNumber 62 = .ok (.aload_n 0, 1) := by decide +kernel
theorem dX2_stepNumber_63 : decode cX2_stepNumber 63 = .ok (.dup, 1) := by decide +kernel
theorem dX2_stepNumber_64 : decode cX2_stepNumber 64 = .ok (.getfield 19, 3) := by decide +kernel
theorem dX2_stepNumber_67 : decode cX2_stepNumber 67 = .ok (.iconst 1, 1) := by decide +kernel
theorem dX2_stepNumber_68 : decode cX2_stepNumber 68 = .ok (.iadd, 1) := by decide +kernel
theorem dX2_stepNumber_69 : decode cX2_stepNumber 69 = .ok (.putfield 19, 3) := by decide +kernel
theorem dX2_stepNumber_72 : decode cX2_stepNumber 72 = .ok (.goto (-62), 3) := by decide +kernel
theorem dX2_stepNumber_75 : decode cX2_stepNumber 75 = .ok (.return_, 1) := by decide +kernel
theorem dX2_isAmong_0 : decode cX2_isAmong 0 = .ok (.iload_n 1, 1) := by decide +kernel
theorem dX2_isAmong_1 : decode cX2_isAmong 1 = .ok (.aload_n 0, 1) := by decide +kernel
theorem dX2_isAmong_2 : decode cX2_isAmong 2 = .ok (.getfield 9, 3) := by decide +kernel
theorem dX2_isAmong_5 : decode cX2_isAmong 5 = .ok (.aload_n 0, 1) := by decide +kernel
theorem dX2_isAmong_6 : decode cX2_isAmong 6 = .ok (.getfield 19, 3) := by decide +kernel
theorem dX2_isAmong_9 : decode cX2_isAmong 9 = .ok (.baload, 1) := by decide +kernel
theorem dX2_isAmong_10 : decode cX2_isAmong 10 = .ok (.if_icmp .gt 20, 3) := by decide +kernel
theorem dX2_isAmong_13 : decode cX2_isAmong 13 = .ok (.aload_n 0, 1) := by decide +kernel
theorem dX2_isAmong_14 : decode cX2_isAmong 14 = .ok (.getfield 9, 3) := by decide +kernel
theorem dX2_isAmong_17 : decode cX2_isAmong 17 = .ok (.aload_n 0, 1) := by decide +kernel
theorem dX2_isAmong_18 : decode cX2_isAmong 18 = .ok (.getfield 19, 3) := by decide +kernel
theorem dX2_isAmong_21 : decode cX2_isAmong 21 = .ok (.baload, 1) := by decide +kernel
theorem dX2_isAmong_22 : decode cX2_isAmong 22 = .ok (.iload_n 2, 1) := by decide +kernel
theorem dX2_isAmong_23 : decode cX2_isAmong 23 = .ok (.if_icmp .gt 7, 3) := by decide +kernel
theorem dX2_isAmong_26 : decode cX2_isAmong 26 = .ok (.iconst 1, 1) := by decide +kernel
theorem dX2_isAmong_27 : decode cX2_isAmong 27 = .ok (.goto 4, 3) := by decide +kernel
theorem dX2_isAmong_30 : decode cX2_isAmong 30 = .ok (.iconst 0, 1) := by decide +kernel
theorem dX2_isAmong_31 : decode cX2_isAmong 31 = .ok (.ireturn, 1) := by decide +kernel
theorem dX3_init_0 : decode cX3_init 0 = .ok (.aload_n 0, 1) := by decide +kernel
theorem dX3_init_1 : decode cX3_init 1 = .ok (.invokespecial 1, 3) := by decide +kernel
theorem dX3_init_4 : decode cX3_init 4 = .ok (.aload_n 0, 1) := by decide +kernel
theorem dX3_init_5 : decode cX3_init 5 = .ok (.new 7, 3) := by decide +kernel
theorem dX3_init_8 : decode cX3_init 8 = .ok (.dup, 1) := by decide +kernel
theorem dX3_init_9 : decode cX3_init 9 = .ok (.invokespecial 9, 3) := by decide +kernel
theorem dX3_init_12 : decode cX3_init 12 = .ok (.putfield 10, 3) := by decide +kernel
theorem dX3_init_15 : decode cX3_init 15 = .ok (.aload_n 0, 1) := by decide +kernel
theorem dX3_init_16 : decode cX3_init 16 = .ok (.new 7, 3) := by decide +kernel
theorem dX3_init_19 : decode cX3_init 19 = .ok (.dup, 1) := by decide +kernel
theorem dX3_init_20 : decode cX3_init 20 = .ok (.invokespecial 9, 3) := by decide +kernel
theorem dX3_init_23 : decode cX3_init 23 = .ok (.putfield 16, 3) := by decide +kernel
theorem dX3_init_26 : decode cX3_init 26 = .ok (.aload_n 0, 1) := by decide +kernel
theorem dX3_init_27 : decode cX3_init 27 = .ok (.new 7, 3) := by decide +kernel
theorem dX3_init_30 : decode cX3_init 30 = .ok (.dup, 1) := by decide +kernel
theorem dX3_init_31 : decode cX3_init 31 = .ok (.invokespecial 9, 3) := by decide +kernel
theorem dX3_init_34 : decode cX3_init 34 = .ok (.putfield 19, 3) := by decide +kernel
theorem dX3_init_37 : decode cX3_init 37 = .ok (.aload_n 0, 1) := by decide +kernel
theorem dX3_init_38 : decode cX3_init 38 = .ok (.new 22, 3) := by decide +kernel
theorem dX3_init_41 : decode cX3_init 41 = .ok (.dup, 1) := by decide +kernel
theorem dX3_init_42 : decode cX3_init 42 = .ok (.invokespecial 24, 3) := by decide +kernel
theorem dX3_init_45 : decode cX3_init 45 = .ok (.putfield 25, 3) := by decide +kernel
theorem dX3_init_48 : decode cX3_init 48 = .ok (.aload_n 0, 1) := by decide +kernel
theorem dX3_init_49 : decode cX3_init 49 = .ok (.iconst 4, 1) := by decide +kernel
theorem dX3_init_50 : decode cX3_init 50 = .ok (.anewarray 29, 3) := by decide +kernel
theorem dX3_init_53 : decode cX3_init 53 = .ok (.putfield 31, 3) := by decide +kernel
theorem dX3_init_56 : decode cX3_init 56 = .ok (.aload_n 0, 1) := by decide +kernel
theorem dX3_init_57 : decode cX3_init 57 = .ok (.bipush 7, 2) := by decide +kernel
theorem dX3_init_59 : decode cX3_init 59 = .ok (.newarray .int, 2) := by decide +kernel
theorem dX3_init_61 : decode cX3_init 61 = .ok (.putfield 35, 3) := by decide +kernel
theorem dX3_init_64 : decode cX3_init 64 = .ok (.iconst 0, 1) := by decide +kernel
theorem dX3_init_65 : decode cX3_init 65 = .ok (.istore_n 1, 1) := by decide +kernel
theorem dX3_init_66 : decode cX3_init 66 = .ok (.iload_n 1, 1) := by decide +kernel
theorem dX3_init_67 : decode cX3_init 67 = .ok (.iconst 4, 1) := by decide +kernel
theorem dX3_init_68 : decode cX3_init 68 = .ok (.if_icmp .ge 22, 3) := by decide +kernel
theorem dX3_init_71 : decode cX3_init 71 = .ok (.aload_n 0, 1) := by decide +kernel
theorem dX3_init_72 : decode cX3_init 72 = .ok (.getfield 31, 3) := by decide +kernel
theorem dX3_init_75 : decode cX3_init 75 = .ok (.iload_n 1, 1) := by decide +kernel
theorem dX3_init_76 : decode cX3_init 76 = .ok (.new 29, 3) := by decide +kernel
theorem dX3_init_79 : decode cX3_init 79 = .ok (.dup, 1) := by decide +kernel
theorem dX3_init_80 : decode cX3_init 80 = .ok (.invokespecial 39, 3) := by decide +kernel
theorem dX3_init_83 : decode cX3_init 83 = .ok (.aastore, 1) := by decide +kernel
theorem dX3_init_84 : decode cX3_init 84 = .ok (.iinc 1 1, 3) := by decide +kernel
theorem dX3_init_87 : decode cX3_init 87 = .ok (.goto (-21), 3) := by decide +kernel
theorem dX3_init_90 : decode cX3_init 90 = .ok (.return_, 1) := by decide +kernel
theorem dX3_grains_0 : decode cX3_grains 0 = .ok (.iload_n 1, 1) := by decide +kernel
theorem dX3_grains_1 : decode cX3_grains 1 = .ok (.invokestatic 40, 3) := by decide +kernel
theorem dX3_grains_4 : decode cX3_grains 4 = .ok (.ifCond .eq 15, 3) := by decide +kernel
theorem dX3_grains_7 : decode cX3_grains 7 = .ok (.aload_n 0, 1) := by decide +kernel
theorem dX3_grains_8 : decode cX3_grains 8 = .ok (.getfield 10, 3) := by decide +kernel
theorem dX3_grains_11 : decode cX3_grains 11 = .ok (.getfield 44, 3) := by decide +kernel
theorem dX3_grains_14 : decode cX3_grains 14 = .ok (.iload_n 1, 1) := by decide +kernel
theorem dX3_grains_15 : decode cX3_grains 15 = .ok (.iaload, 1) := by decide +kernel
theorem dX3_grains_16 : decode cX3_grains 16 = .ok (.goto 8, 3) := by decide +kernel
theorem dX3_grains_19 : decode cX3_grains 19 = .ok (.aload_n 0, 1) := by decide +kernel
theorem dX3_grains_20 : decode cX3_grains 20 = .ok (.iconst 0, 1) := by decide +kernel
theorem dX3_grains_21 : decode cX3_grains 21 = .ok (.invokevirtual 47, 3) := by decide +kernel
theorem dX3_grains_24 : decode cX3_grains 24 = .ok (.ireturn, 1) := by decide +kernel
theorem dX3_pour_0 : decode cX3_pour 0 = .ok (.iload_n 1, 1) := by decide +kernel
theorem dX3_pour_1 : decode cX3_pour 1 = .ok (.invokestatic 40, 3) := by decide +kernel
theorem dX3_pour_4 : decode cX3_pour 4 = .ok (.ifCond .eq 13, 3) := by decide +kernel
theorem dX3_pour_7 : decode cX3_pour 7 = .ok (.iload_n 2, 1) := by decide +kernel
theorem dX3_pour_8 : decode cX3_pour 8 = .ok (.iconst 0, 1) := by decide +kernel
theorem dX3_pour_9 : decode cX3_pour 9 = .ok (.ldc 51, 2) := by decide +kernel
theorem dX3_pour_11 : decode cX3_pour 11 = .ok (.invokestatic 52, 3) := by decide +kernel
theorem dX3_pour_14 : decode cX3_pour 14 = .ok (.ifCond .ne 9, 3) := by decide +kernel
theorem dX3_pour_17 : decode cX3_pour 17 = .ok (.aload_n 0, 1) := by decide +kernel
theorem dX3_pour_18 : decode cX3_pour 18 = .ok (.iconst 0, 1) := by decide +kernel
theorem dX3_pour_19 : decode cX3_pour 19 = .ok (.invokevirtual 47, 3) := by decide +kernel
theorem dX3_pour_22 : decode cX3_pour 22 = .ok (.ireturn, 1) := by decide +kernel
theorem dX3_pour_23 : decode cX3_pour 23 = .ok (.aload_n 0, 1) := by decide +kernel
theorem dX3_pour_24 : decode cX3_pour 24 = .ok (.getfield 10, 3) := by decide +kernel
theorem dX3_pour_27 : decode cX3_pour 27 = .ok (.iload_n 1, 1) := by decide +kernel
theorem dX3_pour_28 : decode cX3_pour 28 = .ok (.iload_n 2, 1) := by decide +kernel
theorem dX3_pour_29 : decode cX3_pour 29 = .ok (.invokevirtual 56, 3) := by decide +kernel
theorem dX3_pour_32 : decode cX3_pour 32 = .ok (.ifCond .ne 9, 3) := by decide +kernel
theorem dX3_pour_35 : decode cX3_pour 35 = .ok (.aload_n 0, 1) := by decide +kernel
theorem dX3_pour_36 : decode cX3_pour 36 = .ok (.iconst 1, 1) := by decide +kernel
theorem dX3_pour_37 : decode cX3_pour 37 = .ok (.invokevirtual 47, 3) := by decide +kernel
theorem dX3_pour_40 : decode cX3_pour 40 = .ok (.ireturn, 1) := by decide +kernel
theorem dX3_pour_41 : decode cX3_pour 41 = .ok (.aload_n 0, 1) := by decide +kernel
theorem dX3_pour_42 : decode cX3_pour 42 = .ok (.getfield 10, 3) := by decide +kernel
theorem dX3_pour_45 : decode cX3_pour 45 = .ok (.getfield 44, 3) := by decide +kernel
theorem dX3_pour_48 : decode cX3_pour 48 = .ok (.iload_n 1, 1) := by decide +kernel
theorem dX3_pour_49 : decode cX3_pour 49 = .ok (.iaload, 1) := by decide +kernel
theorem dX3_pour_50 : decode cX3_pour 50 = .ok (.istore_n 3, 1) := by decide +kernel
theorem dX3_pour_51 : decode cX3_pour 51 = .ok (.aload_n 0, 1) := by decide +kernel
theorem dX3_pour_52 : decode cX3_pour 52 = .ok (.getfield 10, 3) := by decide +kernel
theorem dX3_pour_55 : decode cX3_pour 55 = .ok (.iload_n 1, 1) := by decide +kernel
theorem dX3_pour_56 : decode cX3_pour 56 = .ok (.iload_n 2, 1) := by decide +kernel
theorem dX3_pour_57 : decode cX3_pour 57 = .ok (.invokevirtual 60, 3) := by decide +kernel
theorem dX3_pour_60 : decode cX3_pour 60 = .ok (.iload_n 3, 1) := by decide +kernel
theorem dX3_pour_61 : decode cX3_pour 61 = .ok (.ireturn, 1) := by decide +kernel
theorem dX3_taste_0 : decode cX3_taste 0 = .ok (.iload_n 1, 1) := by decide +kernel
theorem dX3_taste_1 : decode cX3_taste 1 = .ok (.invokestatic 40, 3) := by decide +kernel
theorem dX3_taste_4 : decode cX3_taste 4 = .ok (.ifCond .eq 14, 3) := by decide +kernel
theorem dX3_taste_7 : decode cX3_taste 7 = .ok (.aload_n 0, 1) := by decide +kernel
theorem dX3_taste_8 : decode cX3_taste 8 = .ok (.getfield 10, 3) := by decide +kernel
theorem dX3_taste_11 : decode cX3_taste 11 = .ok (.iload_n 1, 1) := by decide +kernel
theorem dX3_taste_12 : decode cX3_taste 12 = .ok (.invokevirtual 64, 3) := by decide +kernel
theorem dX3_taste_15 : decode cX3_taste 15 = .ok (.goto 8, 3) := by decide +kernel
theorem dX3_taste_18 : decode cX3_taste 18 = .ok (.aload_n 0, 1) := by decide +kernel
theorem dX3_taste_19 : decode cX3_taste 19 = .ok (.iconst 0, 1) := by decide +kernel
theorem dX3_taste_20 : decode cX3_taste 20 = .ok (.invokevirtual 47, 3) := by decide +kernel
theorem dX3_taste_23 : decode cX3_taste 23 = .ok (.ireturn, 1) := by decide +kernel
theorem dX3_spoon_0 : decode cX3_spoon 0 = .ok (.iload_n 1, 1) := by decide +kernel
theorem dX3_spoon_1 : decode cX3_spoon 1 = .ok (.iconst 1, 1) := by decide +kernel
theorem dX3_spoon_2 : decode cX3_spoon 2 = .ok (.sipush 999, 3) := by decide +kernel
theorem dX3_spoon_5 : decode cX3_spoon 5 = .ok (.invokestatic 52, 3) := by decide +kernel
theorem dX3_spoon_8 : decode cX3_spoon 8 = .ok (.ifCond .eq 14, 3) := by decide +kernel
theorem dX3_spoon_11 : decode cX3_spoon 11 = .ok (.aload_n 0, 1) := by decide +kernel
theorem dX3_spoon_12 : decode cX3_spoon 12 = .ok (.getfield 10, 3) := by decide +kernel
theorem dX3_spoon_15 : decode cX3_spoon 15 = .ok (.iload_n 1, 1) := by decide +kernel
theorem dX3_spoon_16 : decode cX3_spoon 16 = .ok (.invokevirtual 67, 3) := by decide +kernel
theorem dX3_spoon_19 : decode cX3_spoon 19 = .ok (.goto 8, 3) := by decide +kernel
theorem dX3_spoon_22 : decode cX3_spoon 22 = .ok (.aload_n 0, 1) := by decide +kernel
theorem dX3_spoon_23 : decode cX3_spoon 23 = .ok (.iconst 0, 1) := by decide +kernel
theorem dX3_spoon_24 : decode cX3_spoon 24 = .ok (.invokevirtual 47, 3) := by decide +kernel
theorem dX3_spoon_27 : decode cX3_spoon 27 = .ok (.ireturn, 1) := by decide +kernel
theorem dX3_spoonOf_0 : decode cX3_spoonOf 0 = .ok (.iload_n 1, 1) := by decide +kernel
theorem dX3_spoonOf_1 : decode cX3_spoonOf 1 = .ok (.invokestatic 40, 3) := by decide +kernel
theorem dX3_spoonOf_4 : decode cX3_spoonOf 4 = .ok (.ifCond .eq 14, 3) := by decide +kernel
theorem dX3_spoonOf_7 : decode cX3_spoonOf 7 = .ok (.iload_n 2, 1) := by decide +kernel
theorem dX3_spoonOf_8 : decode cX3_spoonOf 8 = .ok (.iconst 1, 1) := by decide +kernel
theorem dX3_spoonOf_9 : decode cX3_spoonOf 9 = .ok (.sipush 999, 3) := by decide +kernel
theorem dX3_spoonOf_12 : decode cX3_spoonOf 12 = .ok (.invokestatic 52, 3) := by decide +kernel
theorem dX3_spoonOf_15 : decode cX3_spoonOf 15 = .ok (.ifCond .ne 9, 3) := by decide +kernel
theorem dX3_spoonOf_18 : decode cX3_spoonOf 18 = .ok (.aload_n 0, 1) := by decide +kernel
theorem dX3_spoonOf_19 : decode cX3_spoonOf 19 = .ok (.iconst 0, 1) := by decide +kernel
theorem dX3_spoonOf_20 : decode cX3_spoonOf 20 = .ok (.invokevirtual 47, 3) := by decide +kernel
theorem dX3_spoonOf_23 : decode cX3_spoonOf 23 = .ok (.ireturn, 1) := by decide +kernel
theorem dX3_spoonOf_24 : decode cX3_spoonOf 24 = .ok (.aload_n 0, 1) := by decide +kernel
theorem dX3_spoonOf_25 : decode cX3_spoonOf 25 = .ok (.getfield 10, 3) := by decide +kernel
theorem dX3_spoonOf_28 : decode cX3_spoonOf 28 = .ok (.iload_n 2, 1) := by decide +kernel
theorem dX3_spoonOf_29 : decode cX3_spoonOf 29 = .ok (.invokevirtual 70, 3) := by decide +kernel
theorem dX3_spoonOf_32 : decode cX3_spoonOf 32 = .ok (.pop, 1) := by decide +kernel
theorem dX3_spoonOf_33 : decode cX3_spoonOf 33 = .ok (.aload_n 0, 1) := by decide +kernel
theorem dX3_spoonOf_34 : decode cX3_spoonOf 34 = .ok (.getfield 10, 3) := by decide +kernel
theorem dX3_spoonOf_37 : decode cX3_spoonOf 37 = .ok (.getfield 73, 3) := by decide +kernel
theorem dX3_spoonOf_40 : decode cX3_spoonOf 40 = .ok (.iload_n 1, 1) := by decide +kernel
theorem dX3_spoonOf_41 : decode cX3_spoonOf 41 = .ok (.iaload, 1) := by decide +kernel
theorem dX3_spoonOf_42 : decode cX3_spoonOf 42 = .ok (.ireturn, 1) := by decide +kernel
theorem dX3_cook_0 : decode cX3_cook 0 = .ok (.iload_n 1, 1) := by decide +kernel
theorem dX3_cook_1 : decode cX3_cook 1 = .ok (.invokestatic 76, 3) := by decide +kernel
theorem dX3_cook_4 : decode cX3_cook 4 = .ok (.ifCond .ne 9, 3) := by decide +kernel
theorem dX3_cook_7 : decode cX3_cook 7 = .ok (.aload_n 0, 1) := by decide +kernel
theorem dX3_cook_8 : decode cX3_cook 8 = .ok (.iconst 0, 1) := by decide +kernel
theorem dX3_cook_9 : decode cX3_cook 9 = .ok (.invokevirtual 47, 3) := by decide +kernel
theorem dX3_cook_12 : decode cX3_cook 12 = .ok (.ireturn, 1) := by decide +kernel
theorem dX3_cook_13 : decode cX3_cook 13 = .ok (.aload_n 0, 1) := by decide +kernel
theorem dX3_cook_14 : decode cX3_cook 14 = .ok (.getfield 10, 3) := by decide +kernel
theorem dX3_cook_17 : decode cX3_cook 17 = .ok (.invokevirtual 79, 3) := by decide +kernel
theorem dX3_cook_20 : decode cX3_cook 20 = .ok (.ifCond .eq 11, 3) := by decide +kernel
theorem dX3_cook_23 : decode cX3_cook 23 = .ok (.aload_n 0, 1) := by decide +kernel
theorem dX3_cook_24 : decode cX3_cook 24 = .ok (.iconst 1, 1) := by decide +kernel
theorem dX3_cook_25 : decode cX3_cook 25 = .ok (.invokevirtual 47, 3) := by decide +kernel
theorem dX3_cook_28 : decode cX3_cook 28 = .ok (.goto 11, 3) := by decide +kernel
theorem dX3_cook_31 : decode cX3_cook 31 = .ok (.aload_n 0, 1) := by decide +kernel
theorem dX3_cook_32 : decode cX3_cook 32 = .ok (.getfield 10, 3) := by decide +kernel
theorem dX3_cook_35 : decode cX3_cook 35 = .ok (.iload_n 1, 1) := by decide +kernel
theorem dX3_cook_36 : decode cX3_cook 36 = .ok (.invokevirtual 83, 3) := by decide +kernel
theorem dX3_cook_39 : decode cX3_cook 39 = .ok (.ireturn, 1) := by decide +kernel
theorem dX3_of_0 : decode cX3_of 0 = .ok (.aload_n 0, 1) := by decide +kernel
theorem dX3_of_1 : decode cX3_of 1 = .ok (.iload_n 1, 1) := by decide +kernel
theorem dX3_of_2 : decode cX3_of 2 = .ok (.invokevirtual 86, 3) := by decide +kernel
theorem dX3_of_5 : decode cX3_of 5 = .ok (.ifCond .ne 9, 3) := by decide +kernel
theorem dX3_of_8 : decode cX3_of 8 = .ok (.aload_n 0, 1) := by decide +kernel
theorem dX3_of_9 : decode cX3_of 9 = .ok (.iconst 0, 1) := by decide +kernel
theorem dX3_of_10 : decode cX3_of 10 = .ok (.invokevirtual 47, 3) := by decide +kernel
theorem dX3_of_13 : decode cX3_of 13 = .ok (.ireturn, 1) := by decide +kernel
theorem dX3_of_14 : decode cX3_of 14 = .ok (.iload_n 2, 1) := by decide +kernel
theorem dX3_of_15 : decode cX3_of 15 = .ok (.tableswitch 116 0 6 #[41, 51, 61, 71, 81, 90, 107], 41) := by decide +kernel
theorem dX3_of_56 : decode cX3_of 56 = .ok (.aload_n 0, 1) := by decide +kernel
theorem dX3_of_57 : decode cX3_of 57 = .ok (.getfield 10, 3) := by decide +kernel
theorem dX3_of_60 : decode cX3_of 60 = .ok (.getfield 89, 3) := by decide +kernel
theorem dX3_of_63 : decode cX3_of 63 = .ok (.iload_n 1, 1) := by decide +kernel
theorem dX3_of_64 : decode cX3_of 64 = .ok (.iaload, 1) := by decide +kernel
theorem dX3_of_65 : decode cX3_of 65 = .ok (.ireturn, 1) := by decide +kernel
theorem dX3_of_66 : decode cX3_of 66 = .ok (.aload_n 0, 1) := by decide +kernel
theorem dX3_of_67 : decode cX3_of 67 = .ok (.getfield 10, 3) := by decide +kernel
theorem dX3_of_70 : decode cX3_of 70 = .ok (.getfield 92, 3) := by decide +kernel
theorem dX3_of_73 : decode cX3_of 73 = .ok (.iload_n 1, 1) := by decide +kernel
theorem dX3_of_74 : decode cX3_of 74 = .ok (.iaload, 1) := by decide +kernel
theorem dX3_of_75 : decode cX3_of 75 = .ok (.ireturn, 1) := by decide +kernel
theorem dX3_of_76 : decode cX3_of 76 = .ok (.aload_n 0, 1) := by decide +kernel
theorem dX3_of_77 : decode cX3_of 77 = .ok (.getfield 10, 3) := by decide +kernel
theorem dX3_of_80 : decode cX3_of 80 = .ok (.getfield 95, 3) := by decide +kernel
theorem dX3_of_83 : decode cX3_of 83 = .ok (.iload_n 1, 1) := by decide +kernel
theorem dX3_of_84 : decode cX3_of 84 = .ok (.iaload, 1) := by decide +kernel
theorem dX3_of_85 : decode cX3_of 85 = .ok (.ireturn, 1) := by decide +kernel
theorem dX3_of_86 : decode cX3_of 86 = .ok (.aload_n 0, 1) := by decide +kernel
theorem dX3_of_87 : decode cX3_of 87 = .ok (.getfield 10, 3) := by decide +kernel
theorem dX3_of_90 : decode cX3_of 90 = .ok (.getfield 98, 3) := by decide +kernel
theorem dX3_of_93 : decode cX3_of 93 = .ok (.iload_n 1, 1) := by decide +kernel
theorem dX3_of_94 : decode cX3_of 94 = .ok (.iaload, 1) := by decide +kernel
theorem dX3_of_95 : decode cX3_of 95 = .ok (.ireturn, 1) := by decide +kernel
theorem dX3_of_96 : decode cX3_of 96 = .ok (.aload_n 0, 1) := by decide +kernel
theorem dX3_of_97 : decode cX3_of 97 = .ok (.getfield 10, 3) := by decide +kernel
theorem dX3_of_100 : decode cX3_of 100 = .ok (.iload_n 1, 1) := by decide +kernel
theorem dX3_of_101 : decode cX3_of 101 = .ok (.invokevirtual 101, 3) := by decide +kernel
theorem dX3_of_104 : decode cX3_of 104 = .ok (.ireturn, 1) := by decide +kernel
theorem dX3_of_105 : decode cX3_of 105 = .ok (.aload_n 0, 1) := by decide +kernel
theorem dX3_of_106 : decode cX3_of 106 = .ok (.getfield 10, 3) := by decide +kernel
theorem dX3_of_109 : decode cX3_of 109 = .ok (.iload_n 1, 1) := by decide +kernel
theorem dX3_of_110 : decode cX3_of 110 = .ok (.aload_n 0, 1) := by decide +kernel
theorem dX3_of_111 : decode cX3_of 111 = .ok (.getfield 10, 3) := by decide +kernel
theorem dX3_of_114 : decode cX3_of 114 = .ok (.iload_n 1, 1) := by decide +kernel
theorem dX3_of_115 : decode cX3_of 115 = .ok (.invokevirtual 101, 3) := by decide +kernel
theorem dX3_of_118 : decode cX3_of 118 = .ok (.invokevirtual 104, 3) := by decide +kernel
theorem dX3_of_121 : decode cX3_of 121 = .ok (.ireturn, 1) := by decide +kernel
theorem dX3_of_122 : decode cX3_of 122 = .ok (.aload_n 0, 1) := by decide +kernel
theorem dX3_of_123 : decode cX3_of 123 = .ok (.getfield 10, 3) := by decide +kernel
theorem dX3_of_126 : decode cX3_of 126 = .ok (.iload_n 1, 1) := by decide +kernel
theorem dX3_of_127 : decode cX3_of 127 = .ok (.invokevirtual 108, 3) := by decide +kernel
theorem dX3_of_130 : decode cX3_of 130 = .ok (.ireturn, 1) := by decide +kernel
theorem dX3_of_131 : decode cX3_of 131 = .ok (.aload_n 0, 1) := by decide +kernel
theorem dX3_of_132 : decode cX3_of 132 = .ok (.iconst 0, 1) := by decide +kernel
theorem dX3_of_133 : decode cX3_of 133 = .ok (.invokevirtual 47, 3) := by decide +kernel
theorem dX3_of_136 : decode cX3_of 136 = .ok (.ireturn, 1) := by decide +kernel
theorem dX3_set_0 : decode cX3_set 0 = .ok (.aload_n 0, 1) := by decide +kernel
theorem dX3_set_1 : decode cX3_set 1 = .ok (.iload_n 1, 1) := by decide +kernel
theorem dX3_set_2 : decode cX3_set 2 = .ok (.invokevirtual 86, 3) := by decide +kernel
theorem dX3_set_5 : decode cX3_set 5 = .ok (.ifCond .ne 9, 3) := by decide +kernel
theorem dX3_set_8 : decode cX3_set 8 = .ok (.aload_n 0, 1) := by decide +kernel
theorem dX3_set_9 : decode cX3_set 9 = .ok (.iconst 0, 1) := by decide +kernel
theorem dX3_set_10 : decode cX3_set 10 = .ok (.invokevirtual 47, 3) := by decide +kernel
theorem dX3_set_13 : decode cX3_set 13 = .ok (.ireturn, 1) := by decide +kernel
theorem dX3_set_14 : decode cX3_set 14 = .ok (.iload_n 2, 1) := by decide +kernel
theorem dX3_set_15 : decode cX3_set 15 = .ok (.tableswitch 74 1 3 #[25, 41, 58], 25) := by decide +kernel
theorem dX3_set_40 : decode cX3_set 40 = .ok (.aload_n 0, 1) := by decide +kernel
theorem dX3_set_41 : decode cX3_set 41 = .ok (.aload_n 0, 1) := by decide +kernel
theorem dX3_set_42 : decode cX3_set 42 = .ok (.getfield 10, 3) := by decide +kernel
theorem dX3_set_45 : decode cX3_set 45 = .ok (.getfield 92, 3) := by decide +kernel
theorem dX3_set_48 : decode cX3_set 48 = .ok (.iload_n 1, 1) := by decide +kernel
theorem dX3_set_49 : decode cX3_set 49 = .ok (.iload_n 3, 1) := by decide +kernel
theorem dX3_set_50 : decode cX3_set 50 = .ok (.bipush 11, 2) := by decide +kernel
theorem dX3_set_52 : decode cX3_set 52 = .ok (.invokevirtual 111, 3) := by decide +kernel
theorem dX3_set_55 : decode cX3_set 55 = .ok (.ireturn, 1) := by decide +kernel
theorem dX3_set_56 : decode cX3_set 56 = .ok (.aload_n 0, 1) := by decide +kernel
theorem dX3_set_57 : decode cX3_set 57 = .ok (.aload_n 0, 1) := by decide +kernel
theorem dX3_set_58 : decode cX3_set 58 = .ok (.getfield 10, 3) := by decide +kernel
theorem dX3_set_61 : decode cX3_set 61 = .ok (.getfield 95, 3) := by decide +kernel
theorem dX3_set_64 : decode cX3_set 64 = .ok (.iload_n 1, 1) := by decide +kernel
theorem dX3_set_65 : decode cX3_set 65 = .ok (.iload_n 3, 1) := by decide +kernel
theorem dX3_set_66 : decode cX3_set 66 = .ok (.sipush 999, 3) := by decide +kernel
theorem dX3_set_69 : decode cX3_set 69 = .ok (.invokevirtual 111, 3) := by decide +kernel
theorem dX3_set_72 : decode cX3_set 72 = .ok (.ireturn, 1) := by decide +kernel
theorem dX3_set_73 : decode cX3_set 73 = .ok (.aload_n 0, 1) := by decide +kernel
theorem dX3_set_74 : decode cX3_set 74 = .ok (.aload_n 0, 1) := by decide +kernel
theorem dX3_set_75 : decode cX3_set 75 = .ok (.getfield 10, 3) := by decide +kernel
theorem dX3_set_78 : decode cX3_set 78 = .ok (.getfield 98, 3) := by decide +kernel
theorem dX3_set_81 : decode cX3_set 81 = .ok (.iload_n 1, 1) := by decide +kernel
theorem dX3_set_82 : decode cX3_set 82 = .ok (.iload_n 3, 1) := by decide +kernel
theorem dX3_set_83 : decode cX3_set 83 = .ok (.bipush 9, 2) := by decide +kernel
theorem dX3_set_85 : decode cX3_set 85 = .ok (.invokevirtual 111, 3) := by decide +kernel
theorem dX3_set_88 : decode cX3_set 88 = .ok (.ireturn, 1) := by decide +kernel
theorem dX3_set_89 : decode cX3_set 89 = .ok (.aload_n 0, 1) := by decide +kernel
theorem dX3_set_90 : decode cX3_set 90 = .ok (.iconst 0, 1) := by decide +kernel
theorem dX3_set_91 : decode cX3_set 91 = .ok (.invokevirtual 47, 3) := by decide +kernel
theorem dX3_set_94 : decode cX3_set 94 = .ok (.ireturn, 1) := by decide +kernel
theorem dX3_turn_0 : decode cX3_turn 0 = .ok (.aload_n 0, 1) := by decide +kernel
theorem dX3_turn_1 : decode cX3_turn 1 = .ok (.iload_n 1, 1) := by decide +kernel
theorem dX3_turn_2 : decode cX3_turn 2 = .ok (.invokevirtual 86, 3) := by decide +kernel
theorem dX3_turn_5 : decode cX3_turn 5 = .ok (.ifCond .eq 20, 3) := by decide +kernel
theorem dX3_turn_8 : decode cX3_turn 8 = .ok (.aload_n 0, 1) := by decide +kernel
theorem dX3_turn_9 : decode cX3_turn 9 = .ok (.aload_n 0, 1) := by decide +kernel
theorem dX3_turn_10 : decode cX3_turn 10 = .ok (.getfield 10, 3) := by decide +kernel
theorem dX3_turn_13 : decode cX3_turn 13 = .ok (.getfield 89, 3) := by decide +kernel
theorem dX3_turn_16 : decode cX3_turn 16 = .ok (.iload_n 1, 1) := by decide +kernel
theorem dX3_turn_17 : decode cX3_turn 17 = .ok (.iload_n 2, 1) := by decide +kernel
theorem dX3_turn_18 : decode cX3_turn 18 = .ok (.iconst 5, 1) := by decide +kernel
theorem dX3_turn_19 : decode cX3_turn 19 = .ok (.invokevirtual 111, 3) := by decide +kernel
theorem dX3_turn_22 : decode cX3_turn 22 = .ok (.goto 8, 3) := by decide +kernel
theorem dX3_turn_25 : decode cX3_turn 25 = .ok (.aload_n 0, 1) := by decide +kernel
theorem dX3_turn_26 : decode cX3_turn 26 = .ok (.iconst 0, 1) := by decide +kernel
theorem dX3_turn_27 : decode cX3_turn 27 = .ok (.invokevirtual 47, 3) := by decide +kernel
theorem dX3_turn_30 : decode cX3_turn 30 = .ok (.ireturn, 1) := by decide +kernel
theorem dX3_as_0 : decode cX3_as 0 = .ok (.aload_n 0, 1) := by decide +kernel
theorem dX3_as_1 : decode cX3_as 1 = .ok (.iload_n 1, 1) := by decide +kernel
theorem dX3_as_2 : decode cX3_as 2 = .ok (.invokevirtual 86, 3) := by decide +kernel
theorem dX3_as_5 : decode cX3_as 5 = .ok (.ifCond .eq 10, 3) := by decide +kernel
theorem dX3_as_8 : decode cX3_as 8 = .ok (.iload_n 2, 1) := by decide +kernel
theorem dX3_as_9 : decode cX3_as 9 = .ok (.invokestatic 76, 3) := by decide +kernel
theorem dX3_as_12 : decode cX3_as 12 = .ok (.ifCond .ne 9, 3) := by decide +kernel
theorem dX3_as_15 : decode cX3_as 15 = .ok (.aload_n 0, 1) := by decide +kernel
theorem dX3_as_16 : decode cX3_as 16 = .ok (.iconst 0, 1) := by decide +kernel
theorem dX3_as_17 : decode cX3_as 17 = .ok (.invokevirtual 47, 3) := by decide +kernel
theorem dX3_as_20 : decode cX3_as 20 = .ok (.ireturn, 1) := by decide +kernel
theorem dX3_as_21 : decode cX3_as 21 = .ok (.aload_n 0, 1) := by decide +kernel
theorem dX3_as_22 : decode cX3_as 22 = .ok (.getfield 10, 3) := by decide +kernel
theorem dX3_as_25 : decode cX3_as 25 = .ok (.getfield 89, 3) := by decide +kernel
theorem dX3_as_28 : decode cX3_as 28 = .ok (.iload_n 1, 1) := by decide +kernel
theorem dX3_as_29 : decode cX3_as 29 = .ok (.iaload, 1) := by decide +kernel
theorem dX3_as_30 : decode cX3_as 30 = .ok (.iload_n 2, 1) := by decide +kernel
theorem dX3_as_31 : decode cX3_as 31 = .ok (.invokestatic 115, 3) := by decide +kernel
theorem dX3_as_34 : decode cX3_as 34 = .ok (.ifCond .eq 15, 3) := by decide +kernel
theorem dX3_as_37 : decode cX3_as 37 = .ok (.aload_n 0, 1) := by decide +kernel
theorem dX3_as_38 : decode cX3_as 38 = .ok (.getfield 10, 3) := by decide +kernel
theorem dX3_as_41 : decode cX3_as 41 = .ok (.getfield 95, 3) := by decide +kernel
theorem dX3_as_44 : decode cX3_as 44 = .ok (.iload_n 1, 1) := by decide +kernel
theorem dX3_as_45 : decode cX3_as 45 = .ok (.iaload, 1) := by decide +kernel
theorem dX3_as_46 : decode cX3_as 46 = .ok (.goto 8, 3) := by decide +kernel
theorem dX3_as_49 : decode cX3_as 49 = .ok (.aload_n 0, 1) := by decide +kernel
theorem dX3_as_50 : decode cX3_as 50 = .ok (.iconst 2, 1) := by decide +kernel
theorem dX3_as_51 : decode cX3_as 51 = .ok (.invokevirtual 47, 3) := by decide +kernel
theorem dX3_as_54 : decode cX3_as 54 = .ok (.ireturn, 1) := by decide +kernel
theorem dX3_swap_0 : decode cX3_swap 0 = .ok (.aload_n 0, 1) := by decide +kernel
theorem dX3_swap_1 : decode cX3_swap 1 = .ok (.iload_n 1, 1) := by decide +kernel
theorem dX3_swap_2 : decode cX3_swap 2 = .ok (.invokevirtual 86, 3) := by decide +kernel
theorem dX3_swap_5 : decode cX3_swap 5 = .ok (.ifCond .eq 16, 3) := by decide +kernel
theorem dX3_swap_8 : decode cX3_swap 8 = .ok (.aload_n 0, 1) := by decide +kernel
theorem dX3_swap_9 : decode cX3_swap 9 = .ok (.iload_n 2, 1) := by decide +kernel
theorem dX3_swap_10 : decode cX3_swap 10 = .ok (.invokevirtual 86, 3) := by decide +kernel
theorem dX3_swap_13 : decode cX3_swap 13 = .ok (.ifCond .eq 8, 3) := by decide +kernel
theorem dX3_swap_16 : decode cX3_swap 16 = .ok (.iload_n 1, 1) := by decide +kernel
theorem dX3_swap_17 : decode cX3_swap 17 = .ok (.iload_n 2, 1) := by decide +kernel
theorem dX3_swap_18 : decode cX3_swap 18 = .ok (.if_icmp .ne 9, 3) := by decide +kernel
theorem dX3_swap_21 : decode cX3_swap 21 = .ok (.aload_n 0, 1) := by decide +kernel
theorem dX3_swap_22 : decode cX3_swap 22 = .ok (.iconst 0, 1) := by decide +kernel
theorem dX3_swap_23 : decode cX3_swap 23 = .ok (.invokevirtual 47, 3) := by decide +kernel
theorem dX3_swap_26 : decode cX3_swap 26 = .ok (.ireturn, 1) := by decide +kernel
theorem dX3_swap_27 : decode cX3_swap 27 = .ok (.aload_n 0, 1) := by decide +kernel
theorem dX3_swap_28 : decode cX3_swap 28 = .ok (.getfield 10, 3) := by decide +kernel
theorem dX3_swap_31 : decode cX3_swap 31 = .ok (.iload_n 1, 1) := by decide +kernel
theorem dX3_swap_32 : decode cX3_swap 32 = .ok (.iload_n 2, 1) := by decide +kernel
theorem dX3_swap_33 : decode cX3_swap 33 = .ok (.invokevirtual 118, 3) := by decide +kernel
theorem dX3_swap_36 : decode cX3_swap 36 = .ok (.iconst 1, 1) := by decide +kernel
theorem dX3_swap_37 : decode cX3_swap 37 = .ok (.ireturn, 1) := by decide +kernel
theorem dX3_years_0 : decode cX3_years 0 = .ok (.iload_n 1, 1) := by decide +kernel
theorem dX3_years_1 : decode cX3_years 1 = .ok (.iconst 1, 1) := by decide +kernel
theorem dX3_years_2 : decode cX3_years 2 = .ok (.bipush 100, 2) := by decide +kernel
theorem dX3_years_4 : decode cX3_years 4 = .ok (.invokestatic 52, 3) := by decide +kernel
theorem dX3_years_7 : decode cX3_years 7 = .ok (.ifCond .ne 9, 3) := by decide +kernel
theorem dX3_years_10 : decode cX3_years 10 = .ok (.aload_n 0, 1) := by decide +kernel
theorem dX3_years_11 : decode cX3_years 11 = .ok (.iconst 0, 1) := by decide +kernel
theorem dX3_years_12 : decode cX3_years 12 = .ok (.invokevirtual 47, 3) := by decide +kernel
theorem dX3_years_15 : decode cX3_years 15 = .ok (.ireturn, 1) := by decide +kernel
theorem dX3_years_16 : decode cX3_years 16 = .ok (.aload_n 0, 1) := by decide +kernel
theorem dX3_years_17 : decode cX3_years 17 = .ok (.getfield 10, 3) := by decide +kernel
theorem dX3_years_20 : decode cX3_years 20 = .ok (.getfield 121, 3) := by decide +kernel
theorem dX3_years_23 : decode cX3_years 23 = .ok (.iload_n 1, 1) := by decide +kernel
theorem dX3_years_24 : decode cX3_years 24 = .ok (.iadd, 1) := by decide +kernel
theorem dX3_years_25 : decode cX3_years 25 = .ok (.sipush 9999, 3) := by decide +kernel
theorem dX3_years_28 : decode cX3_years 28 = .ok (.if_icmp .le 9, 3) := by decide +kernel
theorem dX3_years_31 : decode cX3_years 31 = .ok (.aload_n 0, 1) := by decide +kernel
theorem dX3_years_32 : decode cX3_years 32 = .ok (.iconst 4, 1) := by decide +kernel
theorem dX3_years_33 : decode cX3_years 33 = .ok (.invokevirtual 47, 3) := by decide +kernel
theorem dX3_years_36 : decode cX3_years 36 = .ok (.ireturn, 1) := by decide +kernel
theorem dX3_years_37 : decode cX3_years 37 = .ok (.aload_n 0, 1) := by decide +kernel
theorem dX3_years_38 : decode cX3_years 38 = .ok (.getfield 10, 3) := by decide +kernel
theorem dX3_years_41 : decode cX3_years 41 = .ok (.iload_n 1, 1) := by decide +kernel
theorem dX3_years_42 : decode cX3_years 42 = .ok (.invokevirtual 125, 3) := by decide +kernel
theorem dX3_years_45 : decode cX3_years 45 = .ok (.aload_n 0, 1) := by decide +kernel
theorem dX3_years_46 : decode cX3_years 46 = .ok (.getfield 10, 3) := by decide +kernel
theorem dX3_years_49 : decode cX3_years 49 = .ok (.getfield 129, 3) := by decide +kernel
theorem dX3_years_52 : decode cX3_years 52 = .ok (.ireturn, 1) := by decide +kernel
theorem dX3_now_0 : decode cX3_now 0 = .ok (.iload_n 1, 1) := by decide +kernel
theorem dX3_now_1 : decode cX3_now 1 = .ok (.tableswitch 95 0 5 #[39, 47, 55, 63, 71, 87], 39) := by decide +kernel
theorem dX3_now_40 : decode cX3_now 40 = .ok (.aload_n 0, 1) := by decide +kernel
theorem dX3_now_41 : decode cX3_now 41 = .ok (.getfield 10, 3) := by decide +kernel
theorem dX3_now_44 : decode cX3_now 44 = .ok (.getfield 121, 3) := by decide +kernel
theorem dX3_now_47 : decode cX3_now 47 = .ok (.ireturn, 1) := by decide +kernel
theorem dX3_now_48 : decode cX3_now 48 = .ok (.aload_n 0, 1) := by decide +kernel
theorem dX3_now_49 : decode cX3_now 49 = .ok (.getfield 10, 3) := by decide +kernel
theorem dX3_now_52 : decode cX3_now 52 = .ok (.getfield 129, 3) := by decide +kernel
theorem dX3_now_55 : decode cX3_now 55 = .ok (.ireturn, 1) := by decide +kernel
theorem dX3_now_56 : decode cX3_now 56 = .ok (.aload_n 0, 1) := by decide +kernel
theorem dX3_now_57 : decode cX3_now 57 = .ok (.getfield 10, 3) := by decide +kernel
theorem dX3_now_60 : decode cX3_now 60 = .ok (.invokevirtual 132, 3) := by decide +kernel
theorem dX3_now_63 : decode cX3_now 63 = .ok (.ireturn, 1) := by decide +kernel
theorem dX3_now_64 : decode cX3_now 64 = .ok (.aload_n 0, 1) := by decide +kernel
theorem dX3_now_65 : decode cX3_now 65 = .ok (.getfield 10, 3) := by decide +kernel
theorem dX3_now_68 : decode cX3_now 68 = .ok (.invokevirtual 136, 3) := by decide +kernel
theorem dX3_now_71 : decode cX3_now 71 = .ok (.ireturn, 1) := by decide +kernel
theorem dX3_now_72 : decode cX3_now 72 = .ok (.aload_n 0, 1) := by decide +kernel
theorem dX3_now_73 : decode cX3_now 73 = .ok (.getfield 10, 3) := by decide +kernel
theorem dX3_now_76 : decode cX3_now 76 = .ok (.invokevirtual 139, 3) := by decide +kernel
theorem dX3_now_79 : decode cX3_now 79 = .ok (.ifCond .eq 7, 3) := by decide +kernel
theorem dX3_now_82 : decode cX3_now 82 = .ok (.iconst 1, 1) := by decide +kernel
theorem dX3_now_83 : decode cX3_now 83 = .ok (.goto 4, 3) := by decide +kernel
theorem dX3_now_86 : decode cX3_now 86 = .ok (.iconst 0, 1) := by decide +kernel
theorem dX3_now_87 : decode cX3_now 87 = .ok (.ireturn, 1) := by decide +kernel
theorem dX3_now_88 : decode cX3_now 88 = .ok (.aload_n 0, 1) := by decide +kernel
theorem dX3_now_89 : decode cX3_now 89 = .ok (.getfield 10, 3) := by decide +kernel
theorem dX3_now_92 : decode cX3_now 92 = .ok (.invokevirtual 142, 3) := by decide +kernel
theorem dX3_now_95 : decode cX3_now 95 = .ok (.ireturn, 1) := by decide +kernel
theorem dX3_now_96 : decode cX3_now 96 = .ok (.aload_n 0, 1) := by decide +kernel
theorem dX3_now_97 : decode cX3_now 97 = .ok (.iconst 0, 1) := by decide +kernel
theorem dX3_now_98 : decode cX3_now 98 = .ok (.invokevirtual 47, 3) := by decide +kernel
theorem dX3_now_101 : decode cX3_now 101 = .ok (.ireturn, 1) := by decide +kernel
theorem dX3_on_0 : decode cX3_on 0 = .ok (.iload_n 1, 1) := by decide +kernel
theorem dX3_on_1 : decode cX3_on 1 = .ok (.invokestatic 40, 3) := by decide +kernel
theorem dX3_on_4 : decode cX3_on 4 = .ok (.ifCond .eq 22, 3) := by decide +kernel
theorem dX3_on_7 : decode cX3_on 7 = .ok (.iload_n 2, 1) := by decide +kernel
theorem dX3_on_8 : decode cX3_on 8 = .ok (.iconst 0, 1) := by decide +kernel
theorem dX3_on_9 : decode cX3_on 9 = .ok (.bipush 100, 2) := by decide +kernel
theorem dX3_on_11 : decode cX3_on 11 = .ok (.invokestatic 52, 3) := by decide +kernel
theorem dX3_on_14 : decode cX3_on 14 = .ok (.ifCond .eq 12, 3) := by decide +kernel
theorem dX3_on_17 : decode cX3_on 17 = .ok (.iload_n 3, 1) := by decide +kernel
theorem dX3_on_18 : decode cX3_on 18 = .ok (.iconst 0, 1) := by decide +kernel
theorem dX3_on_19 : decode cX3_on 19 = .ok (.iconst 1, 1) := by decide +kernel
theorem dX3_on_20 : decode cX3_on 20 = .ok (.invokestatic 52, 3) := by decide +kernel
theorem dX3_on_23 : decode cX3_on 23 = .ok (.ifCond .ne 9, 3) := by decide +kernel
theorem dX3_on_26 : decode cX3_on 26 = .ok (.aload_n 0, 1) := by decide +kernel
theorem dX3_on_27 : decode cX3_on 27 = .ok (.iconst 0, 1) := by decide +kernel
theorem dX3_on_28 : decode cX3_on 28 = .ok (.invokevirtual 47, 3) := by decide +kernel
theorem dX3_on_31 : decode cX3_on 31 = .ok (.ireturn, 1) := by decide +kernel
theorem dX3_on_32 : decode cX3_on 32 = .ok (.aload_n 0, 1) := by decide +kernel
theorem dX3_on_33 : decode cX3_on 33 = .ok (.invokevirtual 145, 3) := by decide +kernel
theorem dX3_on_36 : decode cX3_on 36 = .ok (.aload_n 0, 1) := by decide +kernel
theorem dX3_on_37 : decode cX3_on 37 = .ok (.getfield 19, 3) := by decide +kernel
theorem dX3_on_40 : decode cX3_on 40 = .ok (.iload_n 2, 1) := by decide +kernel
theorem dX3_on_41 : decode cX3_on 41 = .ok (.invokevirtual 125, 3) := by decide +kernel
theorem dX3_on_44 : decode cX3_on 44 = .ok (.iload_n 3, 1) := by decide +kernel
theorem dX3_on_45 : decode cX3_on 45 = .ok (.ifCond .ne 15, 3) := by decide +kernel
theorem dX3_on_48 : decode cX3_on 48 = .ok (.aload_n 0, 1) := by decide +kernel
theorem dX3_on_49 : decode cX3_on 49 = .ok (.getfield 19, 3) := by decide +kernel
theorem dX3_on_52 : decode cX3_on 52 = .ok (.getfield 44, 3) := by decide +kernel
theorem dX3_on_55 : decode cX3_on 55 = .ok (.iload_n 1, 1) := by decide +kernel
theorem dX3_on_56 : decode cX3_on 56 = .ok (.iaload, 1) := by decide +kernel
theorem dX3_on_57 : decode cX3_on 57 = .ok (.goto 11, 3) := by decide +kernel
theorem dX3_on_60 : decode cX3_on 60 = .ok (.aload_n 0, 1) := by decide +kernel
theorem dX3_on_61 : decode cX3_on 61 = .ok (.getfield 19, 3) := by decide +kernel
theorem dX3_on_64 : decode cX3_on 64 = .ok (.iload_n 1, 1) := by decide +kernel
theorem dX3_on_65 : decode cX3_on 65 = .ok (.invokevirtual 64, 3) := by decide +kernel
theorem dX3_on_68 : decode cX3_on 68 = .ok (.ireturn, 1) := by decide +kernel
theorem dX3_vague_0 : decode cX3_vague 0 = .ok (.aload_n 0, 1) := by decide +kernel
theorem dX3_vague_1 : decode cX3_vague 1 = .ok (.invokevirtual 145, 3) := by decide +kernel
theorem dX3_vague_4 : decode cX3_vague 4 = .ok (.iconst 0, 1) := by decide +kernel
theorem dX3_vague_5 : decode cX3_vague 5 = .ok (.istore_n 1, 1) := by decide +kernel
theorem dX3_vague_6 : decode cX3_vague 6 = .ok (.iload_n 1, 1) := by decide +kernel
theorem dX3_vague_7 : decode cX3_vague 7 = .ok (.sipush 200, 3) := by decide +kernel
theorem dX3_vague_10 : decode cX3_vague 10 = .ok (.if_icmp .gt 29, 3) := by decide +kernel
theorem dX3_vague_13 : decode cX3_vague 13 = .ok (.aload_n 0, 1) := by decide +kernel
theorem dX3_vague_14 : decode cX3_vague 14 = .ok (.getfield 19, 3) := by decide +kernel
theorem dX3_vague_17 : decode cX3_vague 17 = .ok (.invokevirtual 139, 3) := by decide +kernel
theorem dX3_vague_20 : decode cX3_vague 20 = .ok (.ifCond .eq 5, 3) := by decide +kernel
theorem dX3_vague_23 : decode cX3_vague 23 = .ok (.iload_n 1, 1) := by decide +kernel
theorem dX3_vague_24 : decode cX3_vague 24 = .ok (.ireturn, 1) := by decide +kernel
theorem dX3_vague_25 : decode cX3_vague 25 = .ok (.aload_n 0, 1) := by decide +kernel
theorem dX3_vague_26 : decode cX3_vague 26 = .ok (.getfield 19, 3) := by decide +kernel
theorem dX3_vague_29 : decode cX3_vague 29 = .ok (.iconst 1, 1) := by decide +kernel
theorem dX3_vague_30 : decode cX3_vague 30 = .ok (.invokevirtual 125, 3) := by decide +kernel
theorem dX3_vague_33 : decode cX3_vague 33 = .ok (.iinc 1 1, 3) := by decide +kernel
theorem dX3_vague_36 : decode cX3_vague 36 = .ok (.goto (-30), 3) := by decide +kernel
theorem dX3_vague_39 : decode cX3_vague 39 = .ok (.aload_n 0, 1) := by decide +kernel
theorem dX3_vague_40 : decode cX3_vague 40 = .ok (.iconst 3, 1) := by decide +kernel
theorem dX3_vague_41 : decode cX3_vague 41 = .ok (.invokevirtual 47, 3) := by decide +kernel
theorem dX3_vague_44 : decode cX3_vague 44 = .ok (.ireturn, 1) := by decide +kernel
theorem dX3_gone_0 : decode cX3_gone 0 = .ok (.iload_n 1, 1) := by decide +kernel
theorem dX3_gone_1 : decode cX3_gone 1 = .ok (.invokestatic 40, 3) := by decide +kernel
theorem dX3_gone_4 : decode cX3_gone 4 = .ok (.ifCond .eq 13, 3) := by decide +kernel
theorem dX3_gone_7 : decode cX3_gone 7 = .ok (.iload_n 2, 1) := by decide +kernel
theorem dX3_gone_8 : decode cX3_gone 8 = .ok (.iconst 0, 1) := by decide +kernel
theorem dX3_gone_9 : decode cX3_gone 9 = .ok (.ldc 51, 2) := by decide +kernel
theorem dX3_gone_11 : decode cX3_gone 11 = .ok (.invokestatic 52, 3) := by decide +kernel
theorem dX3_gone_14 : decode cX3_gone 14 = .ok (.ifCond .ne 9, 3) := by decide +kernel
theorem dX3_gone_17 : decode cX3_gone 17 = .ok (.aload_n 0, 1) := by decide +kernel
theorem dX3_gone_18 : decode cX3_gone 18 = .ok (.iconst 0, 1) := by decide +kernel
theorem dX3_gone_19 : decode cX3_gone 19 = .ok (.invokevirtual 47, 3) := by decide +kernel
theorem dX3_gone_22 : decode cX3_gone 22 = .ok (.ireturn, 1) := by decide +kernel
theorem dX3_gone_23 : decode cX3_gone 23 = .ok (.aload_n 0, 1) := by decide +kernel
theorem dX3_gone_24 : decode cX3_gone 24 = .ok (.invokevirtual 145, 3) := by decide +kernel
theorem dX3_gone_27 : decode cX3_gone 27 = .ok (.iconst 0, 1) := by decide +kernel
theorem dX3_gone_28 : decode cX3_gone 28 = .ok (.istore_n 3, 1) := by decide +kernel
theorem dX3_gone_29 : decode cX3_gone 29 = .ok (.iload_n 3, 1) := by decide +kernel
theorem dX3_gone_30 : decode cX3_gone 30 = .ok (.sipush 200, 3) := by decide +kernel
theorem dX3_gone_33 : decode cX3_gone 33 = .ok (.if_icmp .gt 32, 3) := by decide +kernel
theorem dX3_gone_36 : decode cX3_gone 36 = .ok (.aload_n 0, 1) := by decide +kernel
theorem dX3_gone_37 : decode cX3_gone 37 = .ok (.getfield 19, 3) := by decide +kernel
theorem dX3_gone_40 : decode cX3_gone 40 = .ok (.getfield 44, 3) := by decide +kernel
theorem dX3_gone_43 : decode cX3_gone 43 = .ok (.iload_n 1, 1) := by decide +kernel
theorem dX3_gone_44 : decode cX3_gone 44 = .ok (.iaload, 1) := by decide +kernel
theorem dX3_gone_45 : decode cX3_gone 45 = .ok (.iload_n 2, 1) := by decide +kernel
theorem dX3_gone_46 : decode cX3_gone 46 = .ok (.if_icmp .gt 5, 3) := by decide +kernel
theorem dX3_gone_49 : decode cX3_gone 49 = .ok (.iload_n 3, 1) := by decide +kernel
theorem dX3_gone_50 : decode cX3_gone 50 = .ok (.ireturn, 1) := by decide +kernel
theorem dX3_gone_51 : decode cX3_gone 51 = .ok (.aload_n 0, 1) := by decide +kernel
theorem dX3_gone_52 : decode cX3_gone 52 = .ok (.getfield 19, 3) := by decide +kernel
theorem dX3_gone_55 : decode cX3_gone 55 = .ok (.iconst 1, 1) := by decide +kernel
theorem dX3_gone_56 : decode cX3_gone 56 = .ok (.invokevirtual 125, 3) := by decide +kernel
theorem dX3_gone_59 : decode cX3_gone 59 = .ok (.iinc 3 1, 3) := by decide +kernel
theorem dX3_gone_62 : decode cX3_gone 62 = .ok (.goto (-33), 3) := by decide +kernel
theorem dX3_gone_65 : decode cX3_gone 65 = .ok (.aload_n 0, 1) := by decide +kernel
theorem dX3_gone_66 : decode cX3_gone 66 = .ok (.iconst 3, 1) := by decide +kernel
theorem dX3_gone_67 : decode cX3_gone 67 = .ok (.invokevirtual 47, 3) := by decide +kernel
theorem dX3_gone_70 : decode cX3_gone 70 = .ok (.ireturn, 1) := by decide +kernel
theorem dX3_strong_0 : decode cX3_strong 0 = .ok (.iload_n 1, 1) := by decide +kernel
theorem dX3_strong_1 : decode cX3_strong 1 = .ok (.invokestatic 40, 3) := by decide +kernel
theorem dX3_strong_4 : decode cX3_strong 4 = .ok (.ifCond .eq 14, 3) := by decide +kernel
theorem dX3_strong_7 : decode cX3_strong 7 = .ok (.iload_n 2, 1) := by decide +kernel
theorem dX3_strong_8 : decode cX3_strong 8 = .ok (.iconst 0, 1) := by decide +kernel
theorem dX3_strong_9 : decode cX3_strong 9 = .ok (.sipush 1000, 3) := by decide +kernel
theorem dX3_strong_12 : decode cX3_strong 12 = .ok (.invokestatic 52, 3) := by decide +kernel
theorem dX3_strong_15 : decode cX3_strong 15 = .ok (.ifCond .ne 9, 3) := by decide +kernel
theorem dX3_strong_18 : decode cX3_strong 18 = .ok (.aload_n 0, 1) := by decide +kernel
theorem dX3_strong_19 : decode cX3_strong 19 = .ok (.iconst 0, 1) := by decide +kernel
theorem dX3_strong_20 : decode cX3_strong 20 = .ok (.invokevirtual 47, 3) := by decide +kernel
theorem dX3_strong_23 : decode cX3_strong 23 = .ok (.ireturn, 1) := by decide +kernel
theorem dX3_strong_24 : decode cX3_strong 24 = .ok (.aload_n 0, 1) := by decide +kernel
theorem dX3_strong_25 : decode cX3_strong 25 = .ok (.invokevirtual 145, 3) := by decide +kernel
theorem dX3_strong_28 : decode cX3_strong 28 = .ok (.iconst 0, 1) := by decide +kernel
theorem dX3_strong_29 : decode cX3_strong 29 = .ok (.istore_n 3, 1) := by decide +kernel
theorem dX3_strong_30 : decode cX3_strong 30 = .ok (.iload_n 3, 1) := by decide +kernel
theorem dX3_strong_31 : decode cX3_strong 31 = .ok (.sipush 200, 3) := by decide +kernel
theorem dX3_strong_34 : decode cX3_strong 34 = .ok (.if_icmp .gt 31, 3) := by decide +kernel
theorem dX3_strong_37 : decode cX3_strong 37 = .ok (.aload_n 0, 1) := by decide +kernel
theorem dX3_strong_38 : decode cX3_strong 38 = .ok (.getfield 19, 3) := by decide +kernel
theorem dX3_strong_41 : decode cX3_strong 41 = .ok (.iload_n 1, 1) := by decide +kernel
theorem dX3_strong_42 : decode cX3_strong 42 = .ok (.invokevirtual 64, 3) := by decide +kernel
theorem dX3_strong_45 : decode cX3_strong 45 = .ok (.iload_n 2, 1) := by decide +kernel
theorem dX3_strong_46 : decode cX3_strong 46 = .ok (.if_icmp .lt 5, 3) := by decide +kernel
theorem dX3_strong_49 : decode cX3_strong 49 = .ok (.iload_n 3, 1) := by decide +kernel
theorem dX3_strong_50 : decode cX3_strong 50 = .ok (.ireturn, 1) := by decide +kernel
theorem dX3_strong_51 : decode cX3_strong 51 = .ok (.aload_n 0, 1) := by decide +kernel
theorem dX3_strong_52 : decode cX3_strong 52 = .ok (.getfield 19, 3) := by decide +kernel
theorem dX3_strong_55 : decode cX3_strong 55 = .ok (.iconst 1, 1) := by decide +kernel
theorem dX3_strong_56 : decode cX3_strong 56 = .ok (.invokevirtual 125, 3) := by decide +kernel
theorem dX3_strong_59 : decode cX3_strong 59 = .ok (.iinc 3 1, 3) := by decide +kernel
theorem dX3_strong_62 : decode cX3_strong 62 = .ok (.goto (-32), 3) := by decide +kernel
theorem dX3_strong_65 : decode cX3_strong 65 = .ok (.aload_n 0, 1) := by decide +kernel
theorem dX3_strong_66 : decode cX3_strong 66 = .ok (.iconst 3, 1) := by decide +kernel
theorem dX3_strong_67 : decode cX3_strong 67 = .ok (.invokevirtual 47, 3) := by decide +kernel
theorem dX3_strong_70 : decode cX3_strong 70 = .ok (.ireturn, 1) := by decide +kernel
theorem dX3_better_0 : decode cX3_better 0 = .ok (.iload_n 1, 1) := by decide +kernel
theorem dX3_better_1 : decode cX3_better 1 = .ok (.invokestatic 40, 3) := by decide +kernel
theorem dX3_better_4 : decode cX3_better 4 = .ok (.ifCond .eq 13, 3) := by decide +kernel
theorem dX3_better_7 : decode cX3_better 7 = .ok (.iload_n 2, 1) := by decide +kernel
theorem dX3_better_8 : decode cX3_better 8 = .ok (.iconst 1, 1) := by decide +kernel
theorem dX3_better_9 : decode cX3_better 9 = .ok (.bipush 60, 2) := by decide +kernel
theorem dX3_better_11 : decode cX3_better 11 = .ok (.invokestatic 52, 3) := by decide +kernel
theorem dX3_better_14 : decode cX3_better 14 = .ok (.ifCond .ne 9, 3) := by decide +kernel
theorem dX3_better_17 : decode cX3_better 17 = .ok (.aload_n 0, 1) := by decide +kernel
theorem dX3_better_18 : decode cX3_better 18 = .ok (.iconst 0, 1) := by decide +kernel
theorem dX3_better_19 : decode cX3_better 19 = .ok (.invokevirtual 47, 3) := by decide +kernel
theorem dX3_better_22 : decode cX3_better 22 = .ok (.ireturn, 1) := by decide +kernel
theorem dX3_better_23 : decode cX3_better 23 = .ok (.aload_n 0, 1) := by decide +kernel
theorem dX3_better_24 : decode cX3_better 24 = .ok (.invokevirtual 145, 3) := by decide +kernel
theorem dX3_better_27 : decode cX3_better 27 = .ok (.aload_n 0, 1) := by decide +kernel
theorem dX3_better_28 : decode cX3_better 28 = .ok (.getfield 19, 3) := by decide +kernel
theorem dX3_better_31 : decode cX3_better 31 = .ok (.iload_n 2, 1) := by decide +kernel
theorem dX3_better_32 : decode cX3_better 32 = .ok (.invokevirtual 125, 3) := by decide +kernel
theorem dX3_better_35 : decode cX3_better 35 = .ok (.aload_n 0, 1) := by decide +kernel
theorem dX3_better_36 : decode cX3_better 36 = .ok (.getfield 19, 3) := by decide +kernel
theorem dX3_better_39 : decode cX3_better 39 = .ok (.getfield 44, 3) := by decide +kernel
theorem dX3_better_42 : decode cX3_better 42 = .ok (.iload_n 1, 1) := by decide +kernel
theorem dX3_better_43 : decode cX3_better 43 = .ok (.iaload, 1) := by decide +kernel
theorem dX3_better_44 : decode cX3_better 44 = .ok (.istore_n 3, 1) := by decide +kernel
theorem dX3_better_45 : decode cX3_better 45 = .ok (.iconst (-1), 1) := by decide +kernel
theorem dX3_better_46 : decode cX3_better 46 = .ok (.istore 4, 2) := by decide +kernel
theorem dX3_better_48 : decode cX3_better 48 = .ok (.iconst 0, 1) := by decide +kernel
theorem dX3_better_49 : decode cX3_better 49 = .ok (.istore 5, 2) := by decide +kernel
theorem dX3_better_51 : decode cX3_better 51 = .ok (.iload 5, 2) := by decide +kernel
theorem dX3_better_53 : decode cX3_better 53 = .ok (.aload_n 0, 1) := by decide +kernel
theorem dX3_better_54 : decode cX3_better 54 = .ok (.getfield 10, 3) := by decide +kernel
theorem dX3_better_57 : decode cX3_better 57 = .ok (.getfield 148, 3) := by decide +kernel
theorem dX3_better_60 : decode cX3_better 60 = .ok (.if_icmp .ge 89, 3) := by decide +kernel
theorem dX3_better_63 : decode cX3_better 63 = .ok (.iload 5, 2) := by decide +kernel
theorem dX3_better_65 : decode cX3_better 65 = .ok (.iconst 1, 1) := by decide +kernel
theorem dX3_better_66 : decode cX3_better 66 = .ok (.iadd, 1) := by decide +kernel
theorem dX3_better_67 : decode cX3_better 67 = .ok (.istore 6, 2) := by decide +kernel
theorem dX3_better_69 : decode cX3_better 69 = .ok (.iload 6, 2) := by decide +kernel
theorem dX3_better_71 : decode cX3_better 71 = .ok (.aload_n 0, 1) := by decide +kernel
theorem dX3_better_72 : decode cX3_better 72 = .ok (.getfield 10, 3) := by decide +kernel
theorem dX3_better_75 : decode cX3_better 75 = .ok (.getfield 148, 3) := by decide +kernel
theorem dX3_better_78 : decode cX3_better 78 = .ok (.if_icmp .ge 65, 3) := by decide +kernel
theorem dX3_better_81 : decode cX3_better 81 = .ok (.aload_n 0, 1) := by decide +kernel
theorem dX3_better_82 : decode cX3_better 82 = .ok (.invokevirtual 145, 3) := by decide +kernel
theorem dX3_better_85 : decode cX3_better 85 = .ok (.aload_n 0, 1) := by decide +kernel
theorem dX3_better_86 : decode cX3_better 86 = .ok (.getfield 19, 3) := by decide +kernel
theorem dX3_better_89 : decode cX3_better 89 = .ok (.iload 5, 2) := by decide +kernel
theorem dX3_better_91 : decode cX3_better 91 = .ok (.iload 6, 2) := by decide +kernel
theorem dX3_better_93 : decode cX3_better 93 = .ok (.invokevirtual 118, 3) := by decide +kernel
theorem dX3_better_96 : decode cX3_better 96 = .ok (.aload_n 0, 1) := by decide +kernel
theorem dX3_better_97 : decode cX3_better 97 = .ok (.getfield 19, 3) := by decide +kernel
theorem dX3_better_100 : decode cX3_better 100 = .ok (.iload_n 2, 1) := by decide +kernel
theorem dX3_better_101 : decode cX3_better 101 = .ok (.invokevirtual 125, 3) := by decide +kernel
theorem dX3_better_104 : decode cX3_better 104 = .ok (.aload_n 0, 1) := by decide +kernel
theorem dX3_better_105 : decode cX3_better 105 = .ok (.getfield 19, 3) := by decide +kernel
theorem dX3_better_108 : decode cX3_better 108 = .ok (.getfield 44, 3) := by decide +kernel
theorem dX3_better_111 : decode cX3_better 111 = .ok (.iload_n 1, 1) := by decide +kernel
theorem dX3_better_112 : decode cX3_better 112 = .ok (.iaload, 1) := by decide +kernel
theorem dX3_better_113 : decode cX3_better 113 = .ok (.iload_n 3, 1) := by decide +kernel
theorem dX3_better_114 : decode cX3_better 114 = .ok (.if_icmp .le 23, 3) := by decide +kernel
theorem dX3_better_117 : decode cX3_better 117 = .ok (.aload_n 0, 1) := by decide +kernel
theorem dX3_better_118 : decode cX3_better 118 = .ok (.getfield 19, 3) := by decide +kernel
theorem dX3_better_121 : decode cX3_better 121 = .ok (.getfield 44, 3) := by decide +kernel
theorem dX3_better_124 : decode cX3_better 124 = .ok (.iload_n 1, 1) := by decide +kernel
theorem dX3_better_125 : decode cX3_better 125 = .ok (.iaload, 1) := by decide +kernel
theorem dX3_better_126 : decode cX3_better 126 = .ok (.istore_n 3, 1) := by decide +kernel
theorem dX3_better_127 : decode cX3_better 127 = .ok (.bipush 10, 2) := by decide +kernel
theorem dX3_better_129 : decode cX3_better 129 = .ok (.iload 5, 2) := by decide +kernel
theorem dX3_better_131 : decode cX3_better 131 = .ok (.imul, 1) := by decide +kernel
theorem dX3_better_132 : decode cX3_better 132 = .ok (.iload 6, 2) := by decide +kernel
theorem dX3_better_134 : decode cX3_better 134 = .ok (.iadd, 1) := by decide +kernel
theorem dX3_better_135 : decode cX3_better 135 = .ok (.istore 4, 2) := by decide +kernel
theorem dX3_better_137 : decode cX3_better 137 = .ok (.iinc 6 1, 3) := by decide +kernel
theorem dX3_better_140 : decode cX3_better 140 = .ok (.goto (-71), 3) := by decide +kernel
theorem dX3_better_143 : decode cX3_better 143 = .ok (.iinc 5 1, 3) := by decide +kernel
theorem dX3_better_146 : decode cX3_better 146 = .ok (.goto (-95), 3) := by decide +kernel
theorem dX3_better_149 : decode cX3_better 149 = .ok (.iload 4, 2) := by decide +kernel
theorem dX3_better_151 : decode cX3_better 151 = .ok (.ifCond .ge 11, 3) := by decide +kernel
theorem dX3_better_154 : decode cX3_better 154 = .ok (.aload_n 0, 1) := by decide +kernel
theorem dX3_better_155 : decode cX3_better 155 = .ok (.iconst 3, 1) := by decide +kernel
theorem dX3_better_156 : decode cX3_better 156 = .ok (.invokevirtual 47, 3) := by decide +kernel
theorem dX3_better_159 : decode cX3_better 159 = .ok (.goto 5, 3) := by decide +kernel
theorem dX3_better_162 : decode cX3_better 162 = .ok (.iload 4, 2) := by decide +kernel
theorem dX3_better_164 : decode cX3_better 164 = .ok (.ireturn, 1) := by decide +kernel
theorem dX3_weight_0 : decode cX3_weight 0 = .ok (.aload_n 0, 1) := by decide +kernel
theorem dX3_weight_1 : decode cX3_weight 1 = .ok (.iload_n 1, 1) := by decide +kernel
theorem dX3_weight_2 : decode cX3_weight 2 = .ok (.invokevirtual 86, 3) := by decide +kernel
theorem dX3_weight_5 : decode cX3_weight 5 = .ok (.ifCond .eq 10, 3) := by decide +kernel
theorem dX3_weight_8 : decode cX3_weight 8 = .ok (.iload_n 2, 1) := by decide +kernel
theorem dX3_weight_9 : decode cX3_weight 9 = .ok (.invokestatic 40, 3) := by decide +kernel
theorem dX3_weight_12 : decode cX3_weight 12 = .ok (.ifCond .ne 9, 3) := by decide +kernel
theorem dX3_weight_15 : decode cX3_weight 15 = .ok (.aload_n 0, 1) := by decide +kernel
theorem dX3_weight_16 : decode cX3_weight 16 = .ok (.iconst 0, 1) := by decide +kernel
theorem dX3_weight_17 : decode cX3_weight 17 = .ok (.invokevirtual 47, 3) := by decide +kernel
theorem dX3_weight_20 : decode cX3_weight 20 = .ok (.ireturn, 1) := by decide +kernel
theorem dX3_weight_21 : decode cX3_weight 21 = .ok (.iload_n 3, 1) := by decide +kernel
theorem dX3_weight_22 : decode cX3_weight 22 = .ok (.iconst 1, 1) := by decide +kernel
theorem dX3_weight_23 : decode cX3_weight 23 = .ok (.bipush 20, 2) := by decide +kernel
theorem dX3_weight_25 : decode cX3_weight 25 = .ok (.invokestatic 52, 3) := by decide +kernel
theorem dX3_weight_28 : decode cX3_weight 28 = .ok (.ifCond .eq 14, 3) := by decide +kernel
theorem dX3_weight_31 : decode cX3_weight 31 = .ok (.iload 4, 2) := by decide +kernel
theorem dX3_weight_33 : decode cX3_weight 33 = .ok (.iconst 0, 1) := by decide +kernel
theorem dX3_weight_34 : decode cX3_weight 34 = .ok (.ldc 51, 2) := by decide +kernel
theorem dX3_weight_36 : decode cX3_weight 36 = .ok (.invokestatic 52, 3) := by decide +kernel
theorem dX3_weight_39 : decode cX3_weight 39 = .ok (.ifCond .ne 9, 3) := by decide +kernel
theorem dX3_weight_42 : decode cX3_weight 42 = .ok (.aload_n 0, 1) := by decide +kernel
theorem dX3_weight_43 : decode cX3_weight 43 = .ok (.iconst 0, 1) := by decide +kernel
theorem dX3_weight_44 : decode cX3_weight 44 = .ok (.invokevirtual 47, 3) := by decide +kernel
theorem dX3_weight_47 : decode cX3_weight 47 = .ok (.ireturn, 1) := by decide +kernel
theorem dX3_weight_48 : decode cX3_weight 48 = .ok (.iconst 0, 1) := by decide +kernel
theorem dX3_weight_49 : decode cX3_weight 49 = .ok (.istore 5, 2) := by decide +kernel
theorem dX3_weight_51 : decode cX3_weight 51 = .ok (.iload 5, 2) := by decide +kernel
theorem dX3_weight_53 : decode cX3_weight 53 = .ok (.sipush 999, 3) := by decide +kernel
theorem dX3_weight_56 : decode cX3_weight 56 = .ok (.if_icmp .gt 49, 3) := by decide +kernel
theorem dX3_weight_59 : decode cX3_weight 59 = .ok (.aload_n 0, 1) := by decide +kernel
theorem dX3_weight_60 : decode cX3_weight 60 = .ok (.invokevirtual 145, 3) := by decide +kernel
theorem dX3_weight_63 : decode cX3_weight 63 = .ok (.aload_n 0, 1) := by decide +kernel
theorem dX3_weight_64 : decode cX3_weight 64 = .ok (.getfield 19, 3) := by decide +kernel
theorem dX3_weight_67 : decode cX3_weight 67 = .ok (.getfield 95, 3) := by decide +kernel
theorem dX3_weight_70 : decode cX3_weight 70 = .ok (.iload_n 1, 1) := by decide +kernel
theorem dX3_weight_71 : decode cX3_weight 71 = .ok (.iload 5, 2) := by decide +kernel
theorem dX3_weight_73 : decode cX3_weight 73 = .ok (.iastore, 1) := by decide +kernel
theorem dX3_weight_74 : decode cX3_weight 74 = .ok (.aload_n 0, 1) := by decide +kernel
theorem dX3_weight_75 : decode cX3_weight 75 = .ok (.getfield 19, 3) := by decide +kernel
theorem dX3_weight_78 : decode cX3_weight 78 = .ok (.iload_n 3, 1) := by decide +kernel
theorem dX3_weight_79 : decode cX3_weight 79 = .ok (.invokevirtual 125, 3) := by decide +kernel
theorem dX3_weight_82 : decode cX3_weight 82 = .ok (.aload_n 0, 1) := by decide +kernel
theorem dX3_weight_83 : decode cX3_weight 83 = .ok (.getfield 19, 3) := by decide +kernel
theorem dX3_weight_86 : decode cX3_weight 86 = .ok (.getfield 44, 3) := by decide +kernel
theorem dX3_weight_89 : decode cX3_weight 89 = .ok (.iload_n 2, 1) := by decide +kernel
theorem dX3_weight_90 : decode cX3_weight 90 = .ok (.iaload, 1) := by decide +kernel
theorem dX3_weight_91 : decode cX3_weight 91 = .ok (.iload 4, 2) := by decide +kernel
theorem dX3_weight_93 : decode cX3_weight 93 = .ok (.if_icmp .lt 6, 3) := by decide +kernel
theorem dX3_weight_96 : decode cX3_weight 96 = .ok (.iload 5, 2) := by decide +kernel
theorem dX3_weight_98 : decode cX3_weight 98 = .ok (.ireturn, 1) := by decide +kernel
theorem dX3_weight_99 : decode cX3_weight 99 = .ok (.iinc 5 1, 3) := by decide +kernel
theorem dX3_weight_102 : decode cX3_weight 102 = .ok (.goto (-51), 3) := by decide +kernel
theorem dX3_weight_105 : decode cX3_weight 105 = .ok (.aload_n 0, 1) := by decide +kernel
theorem dX3_weight_106 : decode cX3_weight 106 = .ok (.iconst 3, 1) := by decide +kernel
theorem dX3_weight_107 : decode cX3_weight 107 = .ok (.invokevirtual 47, 3) := by decide +kernel
theorem dX3_weight_110 : decode cX3_weight 110 = .ok (.ireturn, 1) := by decide +kernel
theorem dX3_kind_0 : decode cX3_kind 0 = .ok (.aload_n 0, 1) := by decide +kernel
theorem dX3_kind_1 : decode cX3_kind 1 = .ok (.iload_n 1, 1) := by decide +kernel
theorem dX3_kind_2 : decode cX3_kind 2 = .ok (.invokevirtual 86, 3) := by decide +kernel
theorem dX3_kind_5 : decode cX3_kind 5 = .ok (.ifCond .eq 20, 3) := by decide +kernel
theorem dX3_kind_8 : decode cX3_kind 8 = .ok (.iload_n 2, 1) := by decide +kernel
theorem dX3_kind_9 : decode cX3_kind 9 = .ok (.invokestatic 40, 3) := by decide +kernel
theorem dX3_kind_12 : decode cX3_kind 12 = .ok (.ifCond .eq 13, 3) := by decide +kernel
theorem dX3_kind_15 : decode cX3_kind 15 = .ok (.iload_n 3, 1) := by decide +kernel
theorem dX3_kind_16 : decode cX3_kind 16 = .ok (.iconst 1, 1) := by decide +kernel
theorem dX3_kind_17 : decode cX3_kind 17 = .ok (.bipush 60, 2) := by decide +kernel
theorem dX3_kind_19 : decode cX3_kind 19 = .ok (.invokestatic 52, 3) := by decide +kernel
theorem dX3_kind_22 : decode cX3_kind 22 = .ok (.ifCond .ne 9, 3) := by decide +kernel
theorem dX3_kind_25 : decode cX3_kind 25 = .ok (.aload_n 0, 1) := by decide +kernel
theorem dX3_kind_26 : decode cX3_kind 26 = .ok (.iconst 0, 1) := by decide +kernel
theorem dX3_kind_27 : decode cX3_kind 27 = .ok (.invokevirtual 47, 3) := by decide +kernel
theorem dX3_kind_30 : decode cX3_kind 30 = .ok (.ireturn, 1) := by decide +kernel
theorem dX3_kind_31 : decode cX3_kind 31 = .ok (.iconst (-1), 1) := by decide +kernel
theorem dX3_kind_32 : decode cX3_kind 32 = .ok (.istore 4, 2) := by decide +kernel
theorem dX3_kind_34 : decode cX3_kind 34 = .ok (.iconst 0, 1) := by decide +kernel
theorem dX3_kind_35 : decode cX3_kind 35 = .ok (.istore 5, 2) := by decide +kernel
theorem dX3_kind_37 : decode cX3_kind 37 = .ok (.iconst 0, 1) := by decide +kernel
theorem dX3_kind_38 : decode cX3_kind 38 = .ok (.istore 6, 2) := by decide +kernel
theorem dX3_kind_40 : decode cX3_kind 40 = .ok (.iload 6, 2) := by decide +kernel
theorem dX3_kind_42 : decode cX3_kind 42 = .ok (.bipush 6, 2) := by decide +kernel
theorem dX3_kind_44 : decode cX3_kind 44 = .ok (.if_icmp .ge 61, 3) := by decide +kernel
theorem dX3_kind_47 : decode cX3_kind 47 = .ok (.aload_n 0, 1) := by decide +kernel
theorem dX3_kind_48 : decode cX3_kind 48 = .ok (.invokevirtual 145, 3) := by decide +kernel
theorem dX3_kind_51 : decode cX3_kind 51 = .ok (.aload_n 0, 1) := by decide +kernel
theorem dX3_kind_52 : decode cX3_kind 52 = .ok (.getfield 19, 3) := by decide +kernel
theorem dX3_kind_55 : decode cX3_kind 55 = .ok (.getfield 89, 3) := by decide +kernel
theorem dX3_kind_58 : decode cX3_kind 58 = .ok (.iload_n 1, 1) := by decide +kernel
theorem dX3_kind_59 : decode cX3_kind 59 = .ok (.iload 6, 2) := by decide +kernel
theorem dX3_kind_61 : decode cX3_kind 61 = .ok (.iastore, 1) := by decide +kernel
theorem dX3_kind_62 : decode cX3_kind 62 = .ok (.aload_n 0, 1) := by decide +kernel
theorem dX3_kind_63 : decode cX3_kind 63 = .ok (.getfield 19, 3) := by decide +kernel
theorem dX3_kind_66 : decode cX3_kind 66 = .ok (.iload_n 3, 1) := by decide +kernel
theorem dX3_kind_67 : decode cX3_kind 67 = .ok (.invokevirtual 125, 3) := by decide +kernel
theorem dX3_kind_70 : decode cX3_kind 70 = .ok (.aload_n 0, 1) := by decide +kernel
theorem dX3_kind_71 : decode cX3_kind 71 = .ok (.getfield 19, 3) := by decide +kernel
theorem dX3_kind_74 : decode cX3_kind 74 = .ok (.getfield 44, 3) := by decide +kernel
theorem dX3_kind_77 : decode cX3_kind 77 = .ok (.iload_n 2, 1) := by decide +kernel
theorem dX3_kind_78 : decode cX3_kind 78 = .ok (.iaload, 1) := by decide +kernel
theorem dX3_kind_79 : decode cX3_kind 79 = .ok (.iload 4, 2) := by decide +kernel
theorem dX3_kind_81 : decode cX3_kind 81 = .ok (.if_icmp .le 18, 3) := by decide +kernel
theorem dX3_kind_84 : decode cX3_kind 84 = .ok (.aload_n 0, 1) := by decide +kernel
theorem dX3_kind_85 : decode cX3_kind 85 = .ok (.getfield 19, 3) := by decide +kernel
theorem dX3_kind_88 : decode cX3_kind 88 = .ok (.getfield 44, 3) := by decide +kernel
theorem dX3_kind_91 : decode cX3_kind 91 = .ok (.iload_n 2, 1) := by decide +kernel
theorem dX3_kind_92 : decode cX3_kind 92 = .ok (.iaload, 1) := by decide +kernel
theorem dX3_kind_93 : decode cX3_kind 93 = .ok (.istore 4, 2) := by decide +kernel
theorem dX3_kind_95 : decode cX3_kind 95 = .ok (.iload 6, 2) := by decide +kernel
theorem dX3_kind_97 : decode cX3_kind 97 = .ok (.istore 5, 2) := by decide +kernel
theorem dX3_kind_99 : decode cX3_kind 99 = .ok (.iinc 6 1, 3) := by decide +kernel
theorem dX3_kind_102 : decode cX3_kind 102 = .ok (.goto (-62), 3) := by decide +kernel
theorem dX3_kind_105 : decode cX3_kind 105 = .ok (.iload 5, 2) := by decide +kernel
theorem dX3_kind_107 : decode cX3_kind 107 = .ok (.ireturn, 1) := by decide +kernel
theorem dX3_puts_0 : decode cX3_puts 0 = .ok (.aload_n 0, 1) := by decide +kernel
theorem dX3_puts_1 : decode cX3_puts 1 = .ok (.iload_n 1, 1) := by decide +kernel
theorem dX3_puts_2 : decode cX3_puts 2 = .ok (.invokevirtual 86, 3) := by decide +kernel
theorem dX3_puts_5 : decode cX3_puts 5 = .ok (.ifCond .eq 13, 3) := by decide +kernel
theorem dX3_puts_8 : decode cX3_puts 8 = .ok (.iload_n 2, 1) := by decide +kernel
theorem dX3_puts_9 : decode cX3_puts 9 = .ok (.iconst 1, 1) := by decide +kernel
theorem dX3_puts_10 : decode cX3_puts 10 = .ok (.bipush 60, 2) := by decide +kernel
theorem dX3_puts_12 : decode cX3_puts 12 = .ok (.invokestatic 52, 3) := by decide +kernel
theorem dX3_puts_15 : decode cX3_puts 15 = .ok (.ifCond .ne 9, 3) := by decide +kernel
theorem dX3_puts_18 : decode cX3_puts 18 = .ok (.aload_n 0, 1) := by decide +kernel
theorem dX3_puts_19 : decode cX3_puts 19 = .ok (.iconst 0, 1) := by decide +kernel
theorem dX3_puts_20 : decode cX3_puts 20 = .ok (.invokevirtual 47, 3) := by decide +kernel
theorem dX3_puts_23 : decode cX3_puts 23 = .ok (.ireturn, 1) := by decide +kernel
theorem dX3_puts_24 : decode cX3_puts 24 = .ok (.aload_n 0, 1) := by decide +kernel
theorem dX3_puts_25 : decode cX3_puts 25 = .ok (.getfield 10, 3) := by decide +kernel
theorem dX3_puts_28 : decode cX3_puts 28 = .ok (.invokevirtual 136, 3) := by decide +kernel
theorem dX3_puts_31 : decode cX3_puts 31 = .ok (.istore_n 3, 1) := by decide +kernel
theorem dX3_puts_32 : decode cX3_puts 32 = .ok (.iconst (-1), 1) := by decide +kernel
theorem dX3_puts_33 : decode cX3_puts 33 = .ok (.istore 4, 2) := by decide +kernel
theorem dX3_puts_35 : decode cX3_puts 35 = .ok (.iconst 0, 1) := by decide +kernel
theorem dX3_puts_36 : decode cX3_puts 36 = .ok (.istore 5, 2) := by decide +kernel
theorem dX3_puts_38 : decode cX3_puts 38 = .ok (.iconst 0, 1) := by decide +kernel
theorem dX3_puts_39 : decode cX3_puts 39 = .ok (.istore 6, 2) := by decide +kernel
theorem dX3_puts_41 : decode cX3_puts 41 = .ok (.iload 6, 2) := by decide +kernel
theorem dX3_puts_43 : decode cX3_puts 43 = .ok (.bipush 12, 2) := by decide +kernel
theorem dX3_puts_45 : decode cX3_puts 45 = .ok (.if_icmp .ge 57, 3) := by decide +kernel
theorem dX3_puts_48 : decode cX3_puts 48 = .ok (.aload_n 0, 1) := by decide +kernel
theorem dX3_puts_49 : decode cX3_puts 49 = .ok (.invokevirtual 145, 3) := by decide +kernel
theorem dX3_puts_52 : decode cX3_puts 52 = .ok (.aload_n 0, 1) := by decide +kernel
theorem dX3_puts_53 : decode cX3_puts 53 = .ok (.getfield 19, 3) := by decide +kernel
theorem dX3_puts_56 : decode cX3_puts 56 = .ok (.getfield 92, 3) := by decide +kernel
theorem dX3_puts_59 : decode cX3_puts 59 = .ok (.iload_n 1, 1) := by decide +kernel
theorem dX3_puts_60 : decode cX3_puts 60 = .ok (.iload 6, 2) := by decide +kernel
theorem dX3_puts_62 : decode cX3_puts 62 = .ok (.iastore, 1) := by decide +kernel
theorem dX3_puts_63 : decode cX3_puts 63 = .ok (.aload_n 0, 1) := by decide +kernel
theorem dX3_puts_64 : decode cX3_puts 64 = .ok (.getfield 19, 3) := by decide +kernel
theorem dX3_puts_67 : decode cX3_puts 67 = .ok (.iload_n 2, 1) := by decide +kernel
theorem dX3_puts_68 : decode cX3_puts 68 = .ok (.invokevirtual 125, 3) := by decide +kernel
theorem dX3_puts_71 : decode cX3_puts 71 = .ok (.aload_n 0, 1) := by decide +kernel
theorem dX3_puts_72 : decode cX3_puts 72 = .ok (.getfield 19, 3) := by decide +kernel
theorem dX3_puts_75 : decode cX3_puts 75 = .ok (.iload_n 3, 1) := by decide +kernel
theorem dX3_puts_76 : decode cX3_puts 76 = .ok (.invokevirtual 151, 3) := by decide +kernel
theorem dX3_puts_79 : decode cX3_puts 79 = .ok (.istore 7, 2) := by decide +kernel
theorem dX3_puts_81 : decode cX3_puts 81 = .ok (.iload 7, 2) := by decide +kernel
theorem dX3_puts_83 : decode cX3_puts 83 = .ok (.iload 4, 2) := by decide +kernel
theorem dX3_puts_85 : decode cX3_puts 85 = .ok (.if_icmp .le 11, 3) := by decide +kernel
theorem dX3_puts_88 : decode cX3_puts 88 = .ok (.iload 7, 2) := by decide +kernel
theorem dX3_puts_90 : decode cX3_puts 90 = .ok (.istore 4, 2) := by decide +kernel
theorem dX3_puts_92 : decode cX3_puts 92 = .ok (.iload 6, 2) := by decide +kernel
theorem dX3_puts_94 : decode cX3_puts 94 = .ok (.istore 5, 2) := by decide +kernel
theorem dX3_puts_96 : decode cX3_puts 96 = .ok (.iinc 6 1, 3) := by decide +kernel
theorem dX3_puts_99 : decode cX3_puts 99 = .ok (.goto (-58), 3) := by decide +kernel
theorem dX3_puts_102 : decode cX3_puts 102 = .ok (.iload 5, 2) := by decide +kernel
theorem dX3_puts_104 : decode cX3_puts 104 = .ok (.ireturn, 1) := by decide +kernel
theorem dX3_best_0 : decode cX3_best 0 = .ok (.iload_n 1, 1) := by decide +kernel
theorem dX3_best_1 : decode cX3_best 1 = .ok (.iconst 0, 1) := by decide +kernel
theorem dX3_best_2 : decode cX3_best 2 = .ok (.bipush 100, 2) := by decide +kernel
theorem dX3_best_4 : decode cX3_best 4 = .ok (.invokestatic 52, 3) := by decide +kernel
theorem dX3_best_7 : decode cX3_best 7 = .ok (.ifCond .ne 9, 3) := by decide +kernel
theorem dX3_best_10 : decode cX3_best 10 = .ok (.aload_n 0, 1) := by decide +kernel
theorem dX3_best_11 : decode cX3_best 11 = .ok (.iconst 0, 1) := by decide +kernel
theorem dX3_best_12 : decode cX3_best 12 = .ok (.invokevirtual 47, 3) := by decide +kernel
theorem dX3_best_15 : decode cX3_best 15 = .ok (.ireturn, 1) := by decide +kernel
theorem dX3_best_16 : decode cX3_best 16 = .ok (.aload_n 0, 1) := by decide +kernel
theorem dX3_best_17 : decode cX3_best 17 = .ok (.invokevirtual 145, 3) := by decide +kernel
theorem dX3_best_20 : decode cX3_best 20 = .ok (.aload_n 0, 1) := by decide +kernel
theorem dX3_best_21 : decode cX3_best 21 = .ok (.getfield 19, 3) := by decide +kernel
theorem dX3_best_24 : decode cX3_best 24 = .ok (.iload_n 1, 1) := by decide +kernel
theorem dX3_best_25 : decode cX3_best 25 = .ok (.invokevirtual 125, 3) := by decide +kernel
theorem dX3_best_28 : decode cX3_best 28 = .ok (.iconst 1, 1) := by decide +kernel
theorem dX3_best_29 : decode cX3_best 29 = .ok (.istore_n 2, 1) := by decide +kernel
theorem dX3_best_30 : decode cX3_best 30 = .ok (.iload_n 2, 1) := by decide +kernel
theorem dX3_best_31 : decode cX3_best 31 = .ok (.iconst 1, 1) := by decide +kernel
theorem dX3_best_32 : decode cX3_best 32 = .ok (.iadd, 1) := by decide +kernel
theorem dX3_best_33 : decode cX3_best 33 = .ok (.istore_n 3, 1) := by decide +kernel
theorem dX3_best_34 : decode cX3_best 34 = .ok (.iload_n 3, 1) := by decide +kernel
theorem dX3_best_35 : decode cX3_best 35 = .ok (.bipush 12, 2) := by decide +kernel
theorem dX3_best_37 : decode cX3_best 37 = .ok (.if_icmp .ge 30, 3) := by decide +kernel
theorem dX3_best_40 : decode cX3_best 40 = .ok (.aload_n 0, 1) := by decide +kernel
theorem dX3_best_41 : decode cX3_best 41 = .ok (.getfield 19, 3) := by decide +kernel
theorem dX3_best_44 : decode cX3_best 44 = .ok (.iload_n 3, 1) := by decide +kernel
theorem dX3_best_45 : decode cX3_best 45 = .ok (.invokevirtual 64, 3) := by decide +kernel
theorem dX3_best_48 : decode cX3_best 48 = .ok (.aload_n 0, 1) := by decide +kernel
theorem dX3_best_49 : decode cX3_best 49 = .ok (.getfield 19, 3) := by decide +kernel
theorem dX3_best_52 : decode cX3_best 52 = .ok (.iload_n 2, 1) := by decide +kernel
theorem dX3_best_53 : decode cX3_best 53 = .ok (.invokevirtual 64, 3) := by decide +kernel
theorem dX3_best_56 : decode cX3_best 56 = .ok (.if_icmp .le 5, 3) := by decide +kernel
theorem dX3_best_59 : decode cX3_best 59 = .ok (.iload_n 3, 1) := by decide +kernel
theorem dX3_best_60 : decode cX3_best 60 = .ok (.istore_n 2, 1) := by decide +kernel
theorem dX3_best_61 : decode cX3_best 61 = .ok (.iinc 3 1, 3) := by decide +kernel
theorem dX3_best_64 : decode cX3_best 64 = .ok (.goto (-30), 3) := by decide +kernel
theorem dX3_best_67 : decode cX3_best 67 = .ok (.iload_n 2, 1) := by decide +kernel
theorem dX3_best_68 : decode cX3_best 68 = .ok (.ireturn, 1) := by decide +kernel
theorem dX3_dull_0 : decode cX3_dull 0 = .ok (.iload_n 1, 1) := by decide +kernel
theorem dX3_dull_1 : decode cX3_dull 1 = .ok (.iconst 1, 1) := by decide +kernel
theorem dX3_dull_2 : decode cX3_dull 2 = .ok (.bipush 60, 2) := by decide +kernel
theorem dX3_dull_4 : decode cX3_dull 4 = .ok (.invokestatic 52, 3) := by decide +kernel
theorem dX3_dull_7 : decode cX3_dull 7 = .ok (.ifCond .ne 9, 3) := by decide +kernel
theorem dX3_dull_10 : decode cX3_dull 10 = .ok (.aload_n 0, 1) := by decide +kernel
theorem dX3_dull_11 : decode cX3_dull 11 = .ok (.iconst 0, 1) := by decide +kernel
theorem dX3_dull_12 : decode cX3_dull 12 = .ok (.invokevirtual 47, 3) := by decide +kernel
theorem dX3_dull_15 : decode cX3_dull 15 = .ok (.ireturn, 1) := by decide +kernel
theorem dX3_dull_16 : decode cX3_dull 16 = .ok (.iconst 0, 1) := by decide +kernel
theorem dX3_dull_17 : decode cX3_dull 17 = .ok (.istore_n 2, 1) := by decide +kernel
theorem dX3_dull_18 : decode cX3_dull 18 = .ok (.iconst 0, 1) := by decide +kernel
theorem dX3_dull_19 : decode cX3_dull 19 = .ok (.istore_n 3, 1) := by decide +kernel
theorem dX3_dull_20 : decode cX3_dull 20 = .ok (.iload_n 3, 1) := by decide +kernel
theorem dX3_dull_21 : decode cX3_dull 21 = .ok (.aload_n 0, 1) := by decide +kernel
theorem dX3_dull_22 : decode cX3_dull 22 = .ok (.getfield 10, 3) := by decide +kernel
theorem dX3_dull_25 : decode cX3_dull 25 = .ok (.getfield 148, 3) := by decide +kernel
theorem dX3_dull_28 : decode cX3_dull 28 = .ok (.if_icmp .ge 45, 3) := by decide +kernel
theorem dX3_dull_31 : decode cX3_dull 31 = .ok (.aload_n 0, 1) := by decide +kernel
theorem dX3_dull_32 : decode cX3_dull 32 = .ok (.invokevirtual 145, 3) := by decide +kernel
theorem dX3_dull_35 : decode cX3_dull 35 = .ok (.aload_n 0, 1) := by decide +kernel
theorem dX3_dull_36 : decode cX3_dull 36 = .ok (.getfield 19, 3) := by decide +kernel
theorem dX3_dull_39 : decode cX3_dull 39 = .ok (.iload_n 3, 1) := by decide +kernel
theorem dX3_dull_40 : decode cX3_dull 40 = .ok (.invokevirtual 154, 3) := by decide +kernel
theorem dX3_dull_43 : decode cX3_dull 43 = .ok (.aload_n 0, 1) := by decide +kernel
theorem dX3_dull_44 : decode cX3_dull 44 = .ok (.getfield 19, 3) := by decide +kernel
theorem dX3_dull_47 : decode cX3_dull 47 = .ok (.iload_n 1, 1) := by decide +kernel
theorem dX3_dull_48 : decode cX3_dull 48 = .ok (.invokevirtual 125, 3) := by decide +kernel
theorem dX3_dull_51 : decode cX3_dull 51 = .ok (.aload_n 0, 1) := by decide +kernel
theorem dX3_dull_52 : decode cX3_dull 52 = .ok (.getfield 19, 3) := by decide +kernel
theorem dX3_dull_55 : decode cX3_dull 55 = .ok (.invokevirtual 139, 3) := by decide +kernel
theorem dX3_dull_58 : decode cX3_dull 58 = .ok (.ifCond .eq 9, 3) := by decide +kernel
theorem dX3_dull_61 : decode cX3_dull 61 = .ok (.iload_n 2, 1) := by decide +kernel
theorem dX3_dull_62 : decode cX3_dull 62 = .ok (.iconst 1, 1) := by decide +kernel
theorem dX3_dull_63 : decode cX3_dull 63 = .ok (.iload_n 3, 1) := by decide +kernel
theorem dX3_dull_64 : decode cX3_dull 64 = .ok (.ishl, 1) := by decide +kernel
theorem dX3_dull_65 : decode cX3_dull 65 = .ok (.ior, 1) := by decide +kernel
theorem dX3_dull_66 : decode cX3_dull 66 = .ok (.istore_n 2, 1) := by decide +kernel
theorem dX3_dull_67 : decode cX3_dull 67 = .ok (.iinc 3 1, 3) := by decide +kernel
theorem dX3_dull_70 : decode cX3_dull 70 = .ok (.goto (-50), 3) := by decide +kernel
theorem dX3_dull_73 : decode cX3_dull 73 = .ok (.iload_n 2, 1) := by decide +kernel
theorem dX3_dull_74 : decode cX3_dull 74 = .ok (.ireturn, 1) := by decide +kernel
theorem dX3_feed_0 : decode cX3_feed 0 = .ok (.iload_n 2, 1) := by decide +kernel
theorem dX3_feed_1 : decode cX3_feed 1 = .ok (.iconst 1, 1) := by decide +kernel
theorem dX3_feed_2 : decode cX3_feed 2 = .ok (.iconst 4, 1) := by decide +kernel
theorem dX3_feed_3 : decode cX3_feed 3 = .ok (.invokestatic 52, 3) := by decide +kernel
theorem dX3_feed_6 : decode cX3_feed 6 = .ok (.ifCond .ne 9, 3) := by decide +kernel
theorem dX3_feed_9 : decode cX3_feed 9 = .ok (.aload_n 0, 1) := by decide +kernel
theorem dX3_feed_10 : decode cX3_feed 10 = .ok (.iconst 0, 1) := by decide +kernel
theorem dX3_feed_11 : decode cX3_feed 11 = .ok (.invokevirtual 47, 3) := by decide +kernel
theorem dX3_feed_14 : decode cX3_feed 14 = .ok (.ireturn, 1) := by decide +kernel
theorem dX3_feed_15 : decode cX3_feed 15 = .ok (.aload_n 0, 1) := by decide +kernel
theorem dX3_feed_16 : decode cX3_feed 16 = .ok (.getfield 25, 3) := by decide +kernel
theorem dX3_feed_19 : decode cX3_feed 19 = .ok (.getfield 157, 3) := by decide +kernel
theorem dX3_feed_22 : decode cX3_feed 22 = .ok (.iload_n 2, 1) := by decide +kernel
theorem dX3_feed_23 : decode cX3_feed 23 = .ok (.iadd, 1) := by decide +kernel
theorem dX3_feed_24 : decode cX3_feed 24 = .ok (.bipush 120, 2) := by decide +kernel
theorem dX3_feed_26 : decode cX3_feed 26 = .ok (.if_icmp .le 9, 3) := by decide +kernel
theorem dX3_feed_29 : decode cX3_feed 29 = .ok (.aload_n 0, 1) := by decide +kernel
theorem dX3_feed_30 : decode cX3_feed 30 = .ok (.iconst 1, 1) := by decide +kernel
theorem dX3_feed_31 : decode cX3_feed 31 = .ok (.invokevirtual 47, 3) := by decide +kernel
theorem dX3_feed_34 : decode cX3_feed 34 = .ok (.ireturn, 1) := by decide +kernel
theorem dX3_feed_35 : decode cX3_feed 35 = .ok (.iload_n 2, 1) := by decide +kernel
theorem dX3_feed_36 : decode cX3_feed 36 = .ok (.iconst 1, 1) := by decide +kernel
theorem dX3_feed_37 : decode cX3_feed 37 = .ok (.isub, 1) := by decide +kernel
theorem dX3_feed_38 : decode cX3_feed 38 = .ok (.istore_n 3, 1) := by decide +kernel
theorem dX3_feed_39 : decode cX3_feed 39 = .ok (.iload_n 3, 1) := by decide +kernel
theorem dX3_feed_40 : decode cX3_feed 40 = .ok (.ifCond .lt 23, 3) := by decide +kernel
theorem dX3_feed_43 : decode cX3_feed 43 = .ok (.aload_n 0, 1) := by decide +kernel
theorem dX3_feed_44 : decode cX3_feed 44 = .ok (.getfield 25, 3) := by decide +kernel
theorem dX3_feed_47 : decode cX3_feed 47 = .ok (.iload_n 1, 1) := by decide +kernel
theorem dX3_feed_48 : decode cX3_feed 48 = .ok (.bipush 8, 2) := by decide +kernel
theorem dX3_feed_50 : decode cX3_feed 50 = .ok (.iload_n 3, 1) := by decide +kernel
theorem dX3_feed_51 : decode cX3_feed 51 = .ok (.imul, 1) := by decide +kernel
theorem dX3_feed_52 : decode cX3_feed 52 = .ok (.ishr, 1) := by decide +kernel
theorem dX3_feed_53 : decode cX3_feed 53 = .ok (.i2b, 1) := by decide +kernel
theorem dX3_feed_54 : decode cX3_feed 54 = .ok (.invokevirtual 160, 3) := by decide +kernel
theorem dX3_feed_57 : decode cX3_feed 57 = .ok (.iinc 3 (-1), 3) := by decide +kernel
theorem dX3_feed_60 : decode cX3_feed 60 = .ok (.goto (-21), 3) := by decide +kernel
theorem dX3_feed_63 : decode cX3_feed 63 = .ok (.aload_n 0, 1) := by decide +kernel
theorem dX3_feed_64 : decode cX3_feed 64 = .ok (.getfield 25, 3) := by decide +kernel
theorem dX3_feed_67 : decode cX3_feed 67 = .ok (.getfield 157, 3) := by decide +kernel
theorem dX3_feed_70 : decode cX3_feed 70 = .ok (.ireturn, 1) := by decide +kernel
theorem dX3_wipe_0 : decode cX3_wipe 0 = .ok (.aload_n 0, 1) := by decide +kernel
theorem dX3_wipe_1 : decode cX3_wipe 1 = .ok (.getfield 25, 3) := by decide +kernel
theorem dX3_wipe_4 : decode cX3_wipe 4 = .ok (.getfield 157, 3) := by decide +kernel
theorem dX3_wipe_7 : decode cX3_wipe 7 = .ok (.istore_n 1, 1) := by decide +kernel
theorem dX3_wipe_8 : decode cX3_wipe 8 = .ok (.aload_n 0, 1) := by decide +kernel
theorem dX3_wipe_9 : decode cX3_wipe 9 = .ok (.getfield 25, 3) := by decide +kernel
theorem dX3_wipe_12 : decode cX3_wipe 12 = .ok (.iconst 0, 1) := by decide +kernel
theorem dX3_wipe_13 : decode cX3_wipe 13 = .ok (.putfield 157, 3) := by decide +kernel
theorem dX3_wipe_16 : decode cX3_wipe 16 = .ok (.iload_n 1, 1) := by decide +kernel
theorem dX3_wipe_17 : decode cX3_wipe 17 = .ok (.ireturn, 1) := by decide +kernel
theorem dX3_college_0 : decode cX3_college 0 = .ok (.aload_n 0, 1) := by decide +kernel
theorem dX3_college_1 : decode cX3_college 1 = .ok (.invokevirtual 145, 3) := by decide +kernel
theorem dX3_college_4 : decode cX3_college 4 = .ok (.aload_n 0, 1) := by decide +kernel
theorem dX3_college_5 : decode cX3_college 5 = .ok (.getfield 25, 3) := by decide +kernel
theorem dX3_college_8 : decode cX3_college 8 = .ok (.aload_n 0, 1) := by decide +kernel
theorem dX3_college_9 : decode cX3_college 9 = .ok (.getfield 19, 3) := by decide +kernel
theorem dX3_college_12 : decode cX3_college 12 = .ok (.invokevirtual 164, 3) := by decide +kernel
theorem dX3_college_15 : decode cX3_college 15 = .ok (.istore_n 1, 1) := by decide +kernel
theorem dX3_college_16 : decode cX3_college 16 = .ok (.aload_n 0, 1) := by decide +kernel
theorem dX3_college_17 : decode cX3_college 17 = .ok (.getfield 25, 3) := by decide +kernel
theorem dX3_college_20 : decode cX3_college 20 = .ok (.iconst 0, 1) := by decide +kernel
theorem dX3_college_21 : decode cX3_college 21 = .ok (.putfield 157, 3) := by decide +kernel
theorem dX3_college_24 : decode cX3_college 24 = .ok (.iload_n 1, 1) := by decide +kernel
theorem dX3_college_25 : decode cX3_college 25 = .ok (.ifCond .lt 14, 3) := by decide +kernel
theorem dX3_college_28 : decode cX3_college 28 = .ok (.aload_n 0, 1) := by decide +kernel
theorem dX3_college_29 : decode cX3_college 29 = .ok (.getfield 10, 3) := by decide +kernel
theorem dX3_college_32 : decode cX3_college 32 = .ok (.aload_n 0, 1) := by decide +kernel
theorem dX3_college_33 : decode cX3_college 33 = .ok (.getfield 19, 3) := by decide +kernel
theorem dX3_college_36 : decode cX3_college 36 = .ok (.invokevirtual 168, 3) := by decide +kernel
theorem dX3_college_39 : decode cX3_college 39 = .ok (.iload_n 1, 1) := by decide +kernel
theorem dX3_college_40 : decode cX3_college 40 = .ok (.ireturn, 1) := by decide +kernel
theorem dX3_sheet_0 : decode cX3_sheet 0 = .ok (.iload_n 1, 1) := by decide +kernel
theorem dX3_sheet_1 : decode cX3_sheet 1 = .ok (.invokestatic 172, 3) := by decide +kernel
theorem dX3_sheet_4 : decode cX3_sheet 4 = .ok (.ifCond .eq 10, 3) := by decide +kernel
theorem dX3_sheet_7 : decode cX3_sheet 7 = .ok (.iload_n 2, 1) := by decide +kernel
theorem dX3_sheet_8 : decode cX3_sheet 8 = .ok (.invokestatic 175, 3) := by decide +kernel
theorem dX3_sheet_11 : decode cX3_sheet 11 = .ok (.ifCond .ne 9, 3) := by decide +kernel
theorem dX3_sheet_14 : decode cX3_sheet 14 = .ok (.aload_n 0, 1) := by decide +kernel
theorem dX3_sheet_15 : decode cX3_sheet 15 = .ok (.iconst 0, 1) := by decide +kernel
theorem dX3_sheet_16 : decode cX3_sheet 16 = .ok (.invokevirtual 47, 3) := by decide +kernel
theorem dX3_sheet_19 : decode cX3_sheet 19 = .ok (.ireturn, 1) := by decide +kernel
theorem dX3_sheet_20 : decode cX3_sheet 20 = .ok (.iload_n 3, 1) := by decide +kernel
theorem dX3_sheet_21 : decode cX3_sheet 21 = .ok (.ifCond .ge 10, 3) := by decide +kernel
theorem dX3_sheet_24 : decode cX3_sheet 24 = .ok (.aload_n 0, 1) := by decide +kernel
theorem dX3_sheet_25 : decode cX3_sheet 25 = .ok (.bipush 6, 2) := by decide +kernel
theorem dX3_sheet_27 : decode cX3_sheet 27 = .ok (.invokevirtual 47, 3) := by decide +kernel
theorem dX3_sheet_30 : decode cX3_sheet 30 = .ok (.ireturn, 1) := by decide +kernel
theorem dX3_sheet_31 : decode cX3_sheet 31 = .ok (.iload_n 3, 1) := by decide +kernel
theorem dX3_sheet_32 : decode cX3_sheet 32 = .ok (.bipush 40, 2) := by decide +kernel
theorem dX3_sheet_34 : decode cX3_sheet 34 = .ok (.if_icmp .le 9, 3) := by decide +kernel
theorem dX3_sheet_37 : decode cX3_sheet 37 = .ok (.aload_n 0, 1) := by decide +kernel
theorem dX3_sheet_38 : decode cX3_sheet 38 = .ok (.iconst 0, 1) := by decide +kernel
theorem dX3_sheet_39 : decode cX3_sheet 39 = .ok (.invokevirtual 47, 3) := by decide +kernel
theorem dX3_sheet_42 : decode cX3_sheet 42 = .ok (.ireturn, 1) := by decide +kernel
theorem dX3_sheet_43 : decode cX3_sheet 43 = .ok (.aload_n 0, 1) := by decide +kernel
theorem dX3_sheet_44 : decode cX3_sheet 44 = .ok (.getfield 31, 3) := by decide +kernel
theorem dX3_sheet_47 : decode cX3_sheet 47 = .ok (.iload_n 1, 1) := by decide +kernel
theorem dX3_sheet_48 : decode cX3_sheet 48 = .ok (.aaload, 1) := by decide +kernel
theorem dX3_sheet_49 : decode cX3_sheet 49 = .ok (.iload_n 2, 1) := by decide +kernel
theorem dX3_sheet_50 : decode cX3_sheet 50 = .ok (.iload_n 2, 1) := by decide +kernel
theorem dX3_sheet_51 : decode cX3_sheet 51 = .ok (.ifCond .ne 7, 3) := by decide +kernel
theorem dX3_sheet_54 : decode cX3_sheet 54 = .ok (.iconst 0, 1) := by decide +kernel
theorem dX3_sheet_55 : decode cX3_sheet 55 = .ok (.goto 4, 3) := by decide +kernel
theorem dX3_sheet_58 : decode cX3_sheet 58 = .ok (.iload_n 3, 1) := by decide +kernel
theorem dX3_sheet_59 : decode cX3_sheet 59 = .ok (.invokevirtual 178, 3) := by decide +kernel
theorem dX3_sheet_62 : decode cX3_sheet 62 = .ok (.aload_n 0, 1) := by decide +kernel
theorem dX3_sheet_63 : decode cX3_sheet 63 = .ok (.getfield 31, 3) := by decide +kernel
theorem dX3_sheet_66 : decode cX3_sheet 66 = .ok (.iload_n 1, 1) := by decide +kernel
theorem dX3_sheet_67 : decode cX3_sheet 67 = .ok (.aaload, 1) := by decide +kernel
theorem dX3_sheet_68 : decode cX3_sheet 68 = .ok (.getfield 181, 3) := by decide +kernel
theorem dX3_sheet_71 : decode cX3_sheet 71 = .ok (.ireturn, 1) := by decide +kernel
theorem dX3_write_0 : decode cX3_write 0 = .ok (.iload_n 1, 1) := by decide +kernel
theorem dX3_write_1 : decode cX3_write 1 = .ok (.invokestatic 172, 3) := by decide +kernel
theorem dX3_write_4 : decode cX3_write 4 = .ok (.ifCond .ne 10, 3) := by decide +kernel
theorem dX3_write_7 : decode cX3_write 7 = .ok (.aload_n 0, 1) := by decide +kernel
theorem dX3_write_8 : decode cX3_write 8 = .ok (.iconst 0, 1) := by decide +kernel
theorem dX3_write_9 : decode cX3_write 9 = .ok (.invokevirtual 47, 3) := by decide +kernel
theorem dX3_write_12 : decode cX3_write 12 = .ok (.i2l, 1) := by decide +kernel
theorem dX3_write_13 : decode cX3_write 13 = .ok (.lreturn, 1) := by decide +kernel
theorem dX3_write_14 : decode cX3_write 14 = .ok (.aload_n 0, 1) := by decide +kernel
theorem dX3_write_15 : decode cX3_write 15 = .ok (.getfield 31, 3) := by decide +kernel
theorem dX3_write_18 : decode cX3_write 18 = .ok (.iload_n 1, 1) := by decide +kernel
theorem dX3_write_19 : decode cX3_write 19 = .ok (.aaload, 1) := by decide +kernel
theorem dX3_write_20 : decode cX3_write 20 = .ok (.astore 5, 2) := by decide +kernel
theorem dX3_write_22 : decode cX3_write 22 = .ok (.aload 5, 2) := by decide +kernel
theorem dX3_write_24 : decode cX3_write 24 = .ok (.invokevirtual 184, 3) := by decide +kernel
theorem dX3_write_27 : decode cX3_write 27 = .ok (.ifCond .eq 10, 3) := by decide +kernel
theorem dX3_write_30 : decode cX3_write 30 = .ok (.aload_n 0, 1) := by decide +kernel
theorem dX3_write_31 : decode cX3_write 31 = .ok (.iconst 5, 1) := by decide +kernel
theorem dX3_write_32 : decode cX3_write 32 = .ok (.invokevirtual 47, 3) := by decide +kernel
theorem dX3_write_35 : decode cX3_write 35 = .ok (.i2l, 1) := by decide +kernel
theorem dX3_write_36 : decode cX3_write 36 = .ok (.lreturn, 1) := by decide +kernel
theorem dX3_write_37 : decode cX3_write 37 = .ok (.iload_n 2, 1) := by decide +kernel
theorem dX3_write_38 : decode cX3_write 38 = .ok (.iconst 0, 1) := by decide +kernel
theorem dX3_write_39 : decode cX3_write 39 = .ok (.aload 5, 2) := by decide +kernel
theorem dX3_write_41 : decode cX3_write 41 = .ok (.getfield 181, 3) := by decide +kernel
theorem dX3_write_44 : decode cX3_write 44 = .ok (.iconst 1, 1) := by decide +kernel
theorem dX3_write_45 : decode cX3_write 45 = .ok (.isub, 1) := by decide +kernel
theorem dX3_write_46 : decode cX3_write 46 = .ok (.invokestatic 52, 3) := by decide +kernel
theorem dX3_write_49 : decode cX3_write 49 = .ok (.ifCond .ne 10, 3) := by decide +kernel
theorem dX3_write_52 : decode cX3_write 52 = .ok (.aload_n 0, 1) := by decide +kernel
theorem dX3_write_53 : decode cX3_write 53 = .ok (.iconst 0, 1) := by decide +kernel
theorem dX3_write_54 : decode cX3_write 54 = .ok (.invokevirtual 47, 3) := by decide +kernel
theorem dX3_write_57 : decode cX3_write 57 = .ok (.i2l, 1) := by decide +kernel
theorem dX3_write_58 : decode cX3_write 58 = .ok (.lreturn, 1) := by decide +kernel
theorem dX3_write_59 : decode cX3_write 59 = .ok (.aload 5, 2) := by decide +kernel
theorem dX3_write_61 : decode cX3_write 61 = .ok (.getfield 187, 3) := by decide +kernel
theorem dX3_write_64 : decode cX3_write 64 = .ok (.iload_n 2, 1) := by decide +kernel
theorem dX3_write_65 : decode cX3_write 65 = .ok (.laload, 1) := by decide +kernel
theorem dX3_write_66 : decode cX3_write 66 = .ok (.lstore 6, 2) := by decide +kernel
theorem dX3_write_68 : decode cX3_write 68 = .ok (.aload 5, 2) := by decide +kernel
theorem dX3_write_70 : decode cX3_write 70 = .ok (.iload_n 2, 1) := by decide +kernel
theorem dX3_write_71 : decode cX3_write 71 = .ok (.lload_n 3, 1) := by decide +kernel
theorem dX3_write_72 : decode cX3_write 72 = .ok (.invokevirtual 191, 3) := by decide +kernel
theorem dX3_write_75 : decode cX3_write 75 = .ok (.lload 6, 2) := by decide +kernel
theorem dX3_write_77 : decode cX3_write 77 = .ok (.lreturn, 1) := by decide +kernel
theorem dX3_copy_0 : decode cX3_copy 0 = .ok (.iload_n 1, 1) := by decide +kernel
theorem dX3_copy_1 : decode cX3_copy 1 = .ok (.invokestatic 172, 3) := by decide +kernel
theorem dX3_copy_4 : decode cX3_copy 4 = .ok (.ifCond .eq 10, 3) := by decide +kernel
theorem dX3_copy_7 : decode cX3_copy 7 = .ok (.iload_n 3, 1) := by decide +kernel
theorem dX3_copy_8 : decode cX3_copy 8 = .ok (.invokestatic 172, 3) := by decide +kernel
theorem dX3_copy_11 : decode cX3_copy 11 = .ok (.ifCond .ne 9, 3) := by decide +kernel
theorem dX3_copy_14 : decode cX3_copy 14 = .ok (.aload_n 0, 1) := by decide +kernel
theorem dX3_copy_15 : decode cX3_copy 15 = .ok (.iconst 0, 1) := by decide +kernel
theorem dX3_copy_16 : decode cX3_copy 16 = .ok (.invokevirtual 47, 3) := by decide +kernel
theorem dX3_copy_19 : decode cX3_copy 19 = .ok (.ireturn, 1) := by decide +kernel
theorem dX3_copy_20 : decode cX3_copy 20 = .ok (.aload_n 0, 1) := by decide +kernel
theorem dX3_copy_21 : decode cX3_copy 21 = .ok (.getfield 31, 3) := by decide +kernel
theorem dX3_copy_24 : decode cX3_copy 24 = .ok (.iload_n 1, 1) := by decide +kernel
theorem dX3_copy_25 : decode cX3_copy 25 = .ok (.aaload, 1) := by decide +kernel
theorem dX3_copy_26 : decode cX3_copy 26 = .ok (.astore 6, 2) := by decide +kernel
theorem dX3_copy_28 : decode cX3_copy 28 = .ok (.aload_n 0, 1) := by decide +kernel
theorem dX3_copy_29 : decode cX3_copy 29 = .ok (.getfield 31, 3) := by decide +kernel
theorem dX3_copy_32 : decode cX3_copy 32 = .ok (.iload_n 3, 1) := by decide +kernel
theorem dX3_copy_33 : decode cX3_copy 33 = .ok (.aaload, 1) := by decide +kernel
theorem dX3_copy_34 : decode cX3_copy 34 = .ok (.astore 7, 2) := by decide +kernel
theorem dX3_copy_36 : decode cX3_copy 36 = .ok (.aload 6, 2) := by decide +kernel
theorem dX3_copy_38 : decode cX3_copy 38 = .ok (.invokevirtual 184, 3) := by decide +kernel
theorem dX3_copy_41 : decode cX3_copy 41 = .ok (.ifCond .ne 11, 3) := by decide +kernel
theorem dX3_copy_44 : decode cX3_copy 44 = .ok (.aload 7, 2) := by decide +kernel
theorem dX3_copy_46 : decode cX3_copy 46 = .ok (.invokevirtual 184, 3) := by decide +kernel
theorem dX3_copy_49 : decode cX3_copy 49 = .ok (.ifCond .eq 9, 3) := by decide +kernel
theorem dX3_copy_52 : decode cX3_copy 52 = .ok (.aload_n 0, 1) := by decide +kernel
theorem dX3_copy_53 : decode cX3_copy 53 = .ok (.iconst 5, 1) := by decide +kernel
theorem dX3_copy_54 : decode cX3_copy 54 = .ok (.invokevirtual 47, 3) := by decide +kernel
theorem dX3_copy_57 : decode cX3_copy 57 = .ok (.ireturn, 1) := by decide +kernel
theorem dX3_copy_58 : decode cX3_copy 58 = .ok (.aload 6, 2) := by decide +kernel
theorem dX3_copy_60 : decode cX3_copy 60 = .ok (.getfield 195, 3) := by decide +kernel
theorem dX3_copy_63 : decode cX3_copy 63 = .ok (.aload 7, 2) := by decide +kernel
theorem dX3_copy_65 : decode cX3_copy 65 = .ok (.getfield 195, 3) := by decide +kernel
theorem dX3_copy_68 : decode cX3_copy 68 = .ok (.if_icmp .eq 9, 3) := by decide +kernel
theorem dX3_copy_71 : decode cX3_copy 71 = .ok (.aload_n 0, 1) := by decide +kernel
theorem dX3_copy_72 : decode cX3_copy 72 = .ok (.iconst 2, 1) := by decide +kernel
theorem dX3_copy_73 : decode cX3_copy 73 = .ok (.invokevirtual 47, 3) := by decide +kernel
theorem dX3_copy_76 : decode cX3_copy 76 = .ok (.ireturn, 1) := by decide +kernel
theorem dX3_copy_77 : decode cX3_copy 77 = .ok (.aload 6, 2) := by decide +kernel
theorem dX3_copy_79 : decode cX3_copy 79 = .ok (.iload_n 2, 1) := by decide +kernel
theorem dX3_copy_80 : decode cX3_copy 80 = .ok (.iload 5, 2) := by decide +kernel
theorem dX3_copy_82 : decode cX3_copy 82 = .ok (.invokevirtual 198, 3) := by decide +kernel
theorem dX3_copy_85 : decode cX3_copy 85 = .ok (.ifCond .eq 15, 3) := by decide +kernel
theorem dX3_copy_88 : decode cX3_copy 88 = .ok (.aload 7, 2) := by decide +kernel
theorem dX3_copy_90 : decode cX3_copy 90 = .ok (.iload 4, 2) := by decide +kernel
theorem dX3_copy_92 : decode cX3_copy 92 = .ok (.iload 5, 2) := by decide +kernel
theorem dX3_copy_94 : decode cX3_copy 94 = .ok (.invokevirtual 198, 3) := by decide +kernel
theorem dX3_copy_97 : decode cX3_copy 97 = .ok (.ifCond .ne 9, 3) := by decide +kernel
theorem dX3_copy_100 : decode cX3_copy 100 = .ok (.aload_n 0, 1) := by decide +kernel
theorem dX3_copy_101 : decode cX3_copy 101 = .ok (.iconst 0, 1) := by decide +kernel
theorem dX3_copy_102 : decode cX3_copy 102 = .ok (.invokevirtual 47, 3) := by decide +kernel
theorem dX3_copy_105 : decode cX3_copy 105 = .ok (.ireturn, 1) := by decide +kernel
theorem dX3_copy_106 : decode cX3_copy 106 = .ok (.aload 6, 2) := by decide +kernel
theorem dX3_copy_108 : decode cX3_copy 108 = .ok (.getfield 187, 3) := by decide +kernel
theorem dX3_copy_111 : decode cX3_copy 111 = .ok (.iload_n 2, 1) := by decide +kernel
theorem dX3_copy_112 : decode cX3_copy 112 = .ok (.aload 7, 2) := by decide +kernel
theorem dX3_copy_114 : decode cX3_copy 114 = .ok (.getfield 187, 3) := by decide +kernel
theorem dX3_copy_117 : decode cX3_copy 117 = .ok (.iload 4, 2) := by decide +kernel
theorem dX3_copy_119 : decode cX3_copy 119 = .ok (.iload 5, 2) := by decide +kernel
theorem dX3_copy_121 : decode cX3_copy 121 = .ok (.invokestatic 201, 3) := by decide +kernel
theorem dX3_copy_124 : decode cX3_copy 124 = .ok (.iload 5, 2) := by decide +kernel
theorem dX3_copy_126 : decode cX3_copy 126 = .ok (.ireturn, 1) := by decide +kernel
theorem dX3_lays_0 : decode cX3_lays 0 = .ok (.iload_n 1, 1) := by decide +kernel
theorem dX3_lays_1 : decode cX3_lays 1 = .ok (.invokestatic 172, 3) := by decide +kernel
theorem dX3_lays_4 : decode cX3_lays 4 = .ok (.ifCond .ne 9, 3) := by decide +kernel
theorem dX3_lays_7 : decode cX3_lays 7 = .ok (.aload_n 0, 1) := by decide +kernel
theorem dX3_lays_8 : decode cX3_lays 8 = .ok (.iconst 0, 1) := by decide +kernel
theorem dX3_lays_9 : decode cX3_lays 9 = .ok (.invokevirtual 47, 3) := by decide +kernel
theorem dX3_lays_12 : decode cX3_lays 12 = .ok (.ireturn, 1) := by decide +kernel
theorem dX3_lays_13 : decode cX3_lays 13 = .ok (.aload_n 0, 1) := by decide +kernel
theorem dX3_lays_14 : decode cX3_lays 14 = .ok (.getfield 31, 3) := by decide +kernel
theorem dX3_lays_17 : decode cX3_lays 17 = .ok (.iload_n 1, 1) := by decide +kernel
theorem dX3_lays_18 : decode cX3_lays 18 = .ok (.aaload, 1) := by decide +kernel
theorem dX3_lays_19 : decode cX3_lays 19 = .ok (.astore_n 2, 1) := by decide +kernel
theorem dX3_lays_20 : decode cX3_lays 20 = .ok (.aload_n 2, 1) := by decide +kernel
theorem dX3_lays_21 : decode cX3_lays 21 = .ok (.invokevirtual 184, 3) := by decide +kernel
theorem dX3_lays_24 : decode cX3_lays 24 = .ok (.ifCond .eq 9, 3) := by decide +kernel
theorem dX3_lays_27 : decode cX3_lays 27 = .ok (.aload_n 0, 1) := by decide +kernel
theorem dX3_lays_28 : decode cX3_lays 28 = .ok (.iconst 5, 1) := by decide +kernel
theorem dX3_lays_29 : decode cX3_lays 29 = .ok (.invokevirtual 47, 3) := by decide +kernel
theorem dX3_lays_32 : decode cX3_lays 32 = .ok (.ireturn, 1) := by decide +kernel
theorem dX3_lays_33 : decode cX3_lays 33 = .ok (.iconst 0, 1) := by decide +kernel
theorem dX3_lays_34 : decode cX3_lays 34 = .ok (.istore_n 3, 1) := by decide +kernel
theorem dX3_lays_35 : decode cX3_lays 35 = .ok (.iconst 0, 1) := by decide +kernel
theorem dX3_lays_36 : decode cX3_lays 36 = .ok (.istore 4, 2) := by decide +kernel
