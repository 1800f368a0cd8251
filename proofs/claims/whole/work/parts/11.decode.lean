theorem dX9_init_0 : decode cX9_init 0 = .ok (.aload_n 0, 1) := by decide +kernel
theorem dX9_init_1 : decode cX9_init 1 = .ok (.invokespecial 1, 3) := by decide +kernel
theorem dX9_init_4 : decode cX9_init 4 = .ok (.aload_n 0, 1) := by decide +kernel
theorem dX9_init_5 : decode cX9_init 5 = .ok (.bipush 35, 2) := by decide +kernel
theorem dX9_init_7 : decode cX9_init 7 = .ok (.newarray .int, 2) := by decide +kernel
theorem dX9_init_9 : decode cX9_init 9 = .ok (.putfield 7, 3) := by decide +kernel
theorem dX9_init_12 : decode cX9_init 12 = .ok (.aload_n 0, 1) := by decide +kernel
theorem dX9_init_13 : decode cX9_init 13 = .ok (.sipush 210, 3) := by decide +kernel
theorem dX9_init_16 : decode cX9_init 16 = .ok (.newarray .int, 2) := by decide +kernel
theorem dX9_init_18 : decode cX9_init 18 = .ok (.putfield 13, 3) := by decide +kernel
theorem dX9_init_21 : decode cX9_init 21 = .ok (.aload_n 0, 1) := by decide +kernel
theorem dX9_init_22 : decode cX9_init 22 = .ok (.bipush 70, 2) := by decide +kernel
theorem dX9_init_24 : decode cX9_init 24 = .ok (.newarray .int, 2) := by decide +kernel
theorem dX9_init_26 : decode cX9_init 26 = .ok (.putfield 16, 3) := by decide +kernel
theorem dX9_init_29 : decode cX9_init 29 = .ok (.aload_n 0, 1) := by decide +kernel
theorem dX9_init_30 : decode cX9_init 30 = .ok (.iconst 2, 1) := by decide +kernel
theorem dX9_init_31 : decode cX9_init 31 = .ok (.newarray .int, 2) := by decide +kernel
theorem dX9_init_33 : decode cX9_init 33 = .ok (.putfield 19, 3) := by decide +kernel
theorem dX9_init_36 : decode cX9_init 36 = .ok (.aload_n 0, 1) := by decide +kernel
theorem dX9_init_37 : decode cX9_init 37 = .ok (.bipush 80, 2) := by decide +kernel
theorem dX9_init_39 : decode cX9_init 39 = .ok (.newarray .int, 2) := by decide +kernel
theorem dX9_init_41 : decode cX9_init 41 = .ok (.putfield 22, 3) := by decide +kernel
theorem dX9_init_44 : decode cX9_init 44 = .ok (.aload_n 0, 1) := by decide +kernel
theorem dX9_init_45 : decode cX9_init 45 = .ok (.bipush 8, 2) := by decide +kernel
theorem dX9_init_47 : decode cX9_init 47 = .ok (.newarray .int, 2) := by decide +kernel
theorem dX9_init_49 : decode cX9_init 49 = .ok (.putfield 25, 3) := by decide +kernel
theorem dX9_init_52 : decode cX9_init 52 = .ok (.aload_n 0, 1) := by decide +kernel
theorem dX9_init_53 : decode cX9_init 53 = .ok (.bipush 8, 2) := by decide +kernel
theorem dX9_init_55 : decode cX9_init 55 = .ok (.newarray .int, 2) := by decide +kernel
theorem dX9_init_57 : decode cX9_init 57 = .ok (.putfield 28, 3) := by decide +kernel
theorem dX9_init_60 : decode cX9_init 60 = .ok (.aload_n 0, 1) := by decide +kernel
theorem dX9_init_61 : decode cX9_init 61 = .ok (.bipush 30, 2) := by decide +kernel
theorem dX9_init_63 : decode cX9_init 63 = .ok (.invokevirtual 31, 3) := by decide +kernel
theorem dX9_init_66 : decode cX9_init 66 = .ok (.return_, 1) := by decide +kernel
theorem dX9_moves_0 : decode cX9_moves 0 = .ok (.iconst 0, 1) := by decide +kernel
theorem dX9_moves_1 : decode cX9_moves 1 = .ok (.istore 4, 2) := by decide +kernel
theorem dX9_moves_3 : decode cX9_moves 3 = .ok (.iload 4, 2) := by decide +kernel
theorem dX9_moves_5 : decode cX9_moves 5 = .ok (.bipush 35, 2) := by decide +kernel
theorem dX9_moves_7 : decode cX9_moves 7 = .ok (.if_icmp .ge 21, 3) := by decide +kernel
theorem dX9_moves_10 : decode cX9_moves 10 = .ok (.aload_n 2, 1) := by decide +kernel
theorem dX9_moves_11 : decode cX9_moves 11 = .ok (.iload_n 3, 1) := by decide +kernel
theorem dX9_moves_12 : decode cX9_moves 12 = .ok (.iload 4, 2) := by decide +kernel
theorem dX9_moves_14 : decode cX9_moves 14 = .ok (.iadd, 1) := by decide +kernel
theorem dX9_moves_15 : decode cX9_moves 15 = .ok (.aload_n 0, 1) := by decide +kernel
theorem dX9_moves_16 : decode cX9_moves 16 = .ok (.iload_n 1, 1) := by decide +kernel
theorem dX9_moves_17 : decode cX9_moves 17 = .ok (.iload 4, 2) := by decide +kernel
theorem dX9_moves_19 : decode cX9_moves 19 = .ok (.iadd, 1) := by decide +kernel
theorem dX9_moves_20 : decode cX9_moves 20 = .ok (.iaload, 1) := by decide +kernel
theorem dX9_moves_21 : decode cX9_moves 21 = .ok (.iastore, 1) := by decide +kernel
theorem dX9_moves_22 : decode cX9_moves 22 = .ok (.iinc 4 1, 3) := by decide +kernel
theorem dX9_moves_25 : decode cX9_moves 25 = .ok (.goto (-22), 3) := by decide +kernel
theorem dX9_moves_28 : decode cX9_moves 28 = .ok (.return_, 1) := by decide +kernel
theorem dX9_within_0 : decode cX9_within 0 = .ok (.iload_n 0, 1) := by decide +kernel
theorem dX9_within_1 : decode cX9_within 1 = .ok (.iload_n 1, 1) := by decide +kernel
theorem dX9_within_2 : decode cX9_within 2 = .ok (.if_icmp .lt 12, 3) := by decide +kernel
theorem dX9_within_5 : decode cX9_within 5 = .ok (.iload_n 0, 1) := by decide +kernel
theorem dX9_within_6 : decode cX9_within 6 = .ok (.iload_n 2, 1) := by decide +kernel
theorem dX9_within_7 : decode cX9_within 7 = .ok (.if_icmp .gt 7, 3) := by decide +kernel
theorem dX9_within_10 : decode cX9_within 10 = .ok (.iconst 1, 1) := by decide +kernel
theorem dX9_within_11 : decode cX9_within 11 = .ok (.goto 4, 3) := by decide +kernel
theorem dX9_within_14 : decode cX9_within 14 = .ok (.iconst 0, 1) := by decide +kernel
theorem dX9_within_15 : decode cX9_within 15 = .ok (.ireturn, 1) := by decide +kernel
theorem dX9_record_0 : decode cX9_record 0 = .ok (.aload_n 0, 1) := by decide +kernel
theorem dX9_record_1 : decode cX9_record 1 = .ok (.getfield 35, 3) := by decide +kernel
theorem dX9_record_4 : decode cX9_record 4 = .ok (.bipush 6, 2) := by decide +kernel
theorem dX9_record_6 : decode cX9_record 6 = .ok (.if_icmp .ne 43, 3) := by decide +kernel
theorem dX9_record_9 : decode cX9_record 9 = .ok (.iconst 0, 1) := by decide +kernel
theorem dX9_record_10 : decode cX9_record 10 = .ok (.istore_n 1, 1) := by decide +kernel
theorem dX9_record_11 : decode cX9_record 11 = .ok (.iload_n 1, 1) := by decide +kernel
theorem dX9_record_12 : decode cX9_record 12 = .ok (.sipush 175, 3) := by decide +kernel
theorem dX9_record_15 : decode cX9_record 15 = .ok (.if_icmp .ge 24, 3) := by decide +kernel
theorem dX9_record_18 : decode cX9_record 18 = .ok (.aload_n 0, 1) := by decide +kernel
theorem dX9_record_19 : decode cX9_record 19 = .ok (.getfield 13, 3) := by decide +kernel
theorem dX9_record_22 : decode cX9_record 22 = .ok (.iload_n 1, 1) := by decide +kernel
theorem dX9_record_23 : decode cX9_record 23 = .ok (.aload_n 0, 1) := by decide +kernel
theorem dX9_record_24 : decode cX9_record 24 = .ok (.getfield 13, 3) := by decide +kernel
theorem dX9_record_27 : decode cX9_record 27 = .ok (.iload_n 1, 1) := by decide +kernel
theorem dX9_record_28 : decode cX9_record 28 = .ok (.bipush 35, 2) := by decide +kernel
theorem dX9_record_30 : decode cX9_record 30 = .ok (.iadd, 1) := by decide +kernel
theorem dX9_record_31 : decode cX9_record 31 = .ok (.iaload, 1) := by decide +kernel
theorem dX9_record_32 : decode cX9_record 32 = .ok (.iastore, 1) := by decide +kernel
theorem dX9_record_33 : decode cX9_record 33 = .ok (.iinc 1 1, 3) := by decide +kernel
theorem dX9_record_36 : decode cX9_record 36 = .ok (.goto (-25), 3) := by decide +kernel
theorem dX9_record_39 : decode cX9_record 39 = .ok (.aload_n 0, 1) := by decide +kernel
theorem dX9_record_40 : decode cX9_record 40 = .ok (.dup, 1) := by decide +kernel
theorem dX9_record_41 : decode cX9_record 41 = .ok (.getfield 35, 3) := by decide +kernel
theorem dX9_record_44 : decode cX9_record 44 = .ok (.iconst 1, 1) := by decide +kernel
theorem dX9_record_45 : decode cX9_record 45 = .ok (.isub, 1) := by decide +kernel
theorem dX9_record_46 : decode cX9_record 46 = .ok (.putfield 35, 3) := by decide +kernel
theorem dX9_record_49 : decode cX9_record 49 = .ok (.aload_n 0, 1) := by decide +kernel
theorem dX9_record_50 : decode cX9_record 50 = .ok (.getfield 7, 3) := by decide +kernel
theorem dX9_record_53 : decode cX9_record 53 = .ok (.iconst 0, 1) := by decide +kernel
theorem dX9_record_54 : decode cX9_record 54 = .ok (.aload_n 0, 1) := by decide +kernel
theorem dX9_record_55 : decode cX9_record 55 = .ok (.getfield 13, 3) := by decide +kernel
theorem dX9_record_58 : decode cX9_record 58 = .ok (.aload_n 0, 1) := by decide +kernel
theorem dX9_record_59 : decode cX9_record 59 = .ok (.getfield 35, 3) := by decide +kernel
theorem dX9_record_62 : decode cX9_record 62 = .ok (.bipush 35, 2) := by decide +kernel
theorem dX9_record_64 : decode cX9_record 64 = .ok (.imul, 1) := by decide +kernel
theorem dX9_record_65 : decode cX9_record 65 = .ok (.invokestatic 39, 3) := by decide +kernel
theorem dX9_record_68 : decode cX9_record 68 = .ok (.aload_n 0, 1) := by decide +kernel
theorem dX9_record_69 : decode cX9_record 69 = .ok (.dup, 1) := by decide +kernel
theorem dX9_record_70 : decode cX9_record 70 = .ok (.getfield 35, 3) := by decide +kernel
theorem dX9_record_73 : decode cX9_record 73 = .ok (.iconst 1, 1) := by decide +kernel
theorem dX9_record_74 : decode cX9_record 74 = .ok (.iadd, 1) := by decide +kernel
theorem dX9_record_75 : decode cX9_record 75 = .ok (.putfield 35, 3) := by decide +kernel
theorem dX9_record_78 : decode cX9_record 78 = .ok (.return_, 1) := by decide +kernel
theorem dX9_divisor_0 : decode cX9_divisor 0 = .ok (.iload_n 0, 1) := by decide +kernel
theorem dX9_divisor_1 : decode cX9_divisor 1 = .ok (.istore_n 2, 1) := by decide +kernel
theorem dX9_divisor_2 : decode cX9_divisor 2 = .ok (.iload_n 1, 1) := by decide +kernel
theorem dX9_divisor_3 : decode cX9_divisor 3 = .ok (.istore_n 3, 1) := by decide +kernel
theorem dX9_divisor_4 : decode cX9_divisor 4 = .ok (.iload_n 3, 1) := by decide +kernel
theorem dX9_divisor_5 : decode cX9_divisor 5 = .ok (.ifCond .eq 16, 3) := by decide +kernel
theorem dX9_divisor_8 : decode cX9_divisor 8 = .ok (.iload_n 2, 1) := by decide +kernel
theorem dX9_divisor_9 : decode cX9_divisor 9 = .ok (.iload_n 3, 1) := by decide +kernel
theorem dX9_divisor_10 : decode cX9_divisor 10 = .ok (.irem, 1) := by decide +kernel
theorem dX9_divisor_11 : decode cX9_divisor 11 = .ok (.istore 4, 2) := by decide +kernel
theorem dX9_divisor_13 : decode cX9_divisor 13 = .ok (.iload_n 3, 1) := by decide +kernel
theorem dX9_divisor_14 : decode cX9_divisor 14 = .ok (.istore_n 2, 1) := by decide +kernel
theorem dX9_divisor_15 : decode cX9_divisor 15 = .ok (.iload 4, 2) := by decide +kernel
theorem dX9_divisor_17 : decode cX9_divisor 17 = .ok (.istore_n 3, 1) := by decide +kernel
theorem dX9_divisor_18 : decode cX9_divisor 18 = .ok (.goto (-14), 3) := by decide +kernel
theorem dX9_divisor_21 : decode cX9_divisor 21 = .ok (.iload_n 2, 1) := by decide +kernel
theorem dX9_divisor_22 : decode cX9_divisor 22 = .ok (.ireturn, 1) := by decide +kernel
theorem dX9_takeFraction_0 : decode cX9_takeFraction 0 = .ok (.iload_n 1, 1) := by decide +kernel
theorem dX9_takeFraction_1 : decode cX9_takeFraction 1 = .ok (.ifCond .ge 8, 3) := by decide +kernel
theorem dX9_takeFraction_4 : decode cX9_takeFraction 4 = .ok (.iload_n 1, 1) := by decide +kernel
theorem dX9_takeFraction_5 : decode cX9_takeFraction 5 = .ok (.ineg, 1) := by decide +kernel
theorem dX9_takeFraction_6 : decode cX9_takeFraction 6 = .ok (.goto 4, 3) := by decide +kernel
theorem dX9_takeFraction_9 : decode cX9_takeFraction 9 = .ok (.iload_n 1, 1) := by decide +kernel
theorem dX9_takeFraction_10 : decode cX9_takeFraction 10 = .ok (.iload_n 2, 1) := by decide +kernel
theorem dX9_takeFraction_11 : decode cX9_takeFraction 11 = .ok (.invokestatic 43, 3) := by decide +kernel
theorem dX9_takeFraction_14 : decode cX9_takeFraction 14 = .ok (.istore_n 3, 1) := by decide +kernel
theorem dX9_takeFraction_15 : decode cX9_takeFraction 15 = .ok (.aload_n 0, 1) := by decide +kernel
theorem dX9_takeFraction_16 : decode cX9_takeFraction 16 = .ok (.iload_n 1, 1) := by decide +kernel
theorem dX9_takeFraction_17 : decode cX9_takeFraction 17 = .ok (.iload_n 3, 1) := by decide +kernel
theorem dX9_takeFraction_18 : decode cX9_takeFraction 18 = .ok (.idiv, 1) := by decide +kernel
theorem dX9_takeFraction_19 : decode cX9_takeFraction 19 = .ok (.putfield 47, 3) := by decide +kernel
theorem dX9_takeFraction_22 : decode cX9_takeFraction 22 = .ok (.aload_n 0, 1) := by decide +kernel
theorem dX9_takeFraction_23 : decode cX9_takeFraction 23 = .ok (.iload_n 2, 1) := by decide +kernel
theorem dX9_takeFraction_24 : decode cX9_takeFraction 24 = .ok (.iload_n 3, 1) := by decide +kernel
theorem dX9_takeFraction_25 : decode cX9_takeFraction 25 = .ok (.idiv, 1) := by decide +kernel
theorem dX9_takeFraction_26 : decode cX9_takeFraction 26 = .ok (.putfield 50, 3) := by decide +kernel
theorem dX9_takeFraction_29 : decode cX9_takeFraction 29 = .ok (.return_, 1) := by decide +kernel
theorem dX9_isReceiver_0 : decode cX9_isReceiver 0 = .ok (.iload_n 1, 1) := by decide +kernel
theorem dX9_isReceiver_1 : decode cX9_isReceiver 1 = .ok (.iconst 0, 1) := by decide +kernel
theorem dX9_isReceiver_2 : decode cX9_isReceiver 2 = .ok (.aload_n 0, 1) := by decide +kernel
theorem dX9_isReceiver_3 : decode cX9_isReceiver 3 = .ok (.getfield 7, 3) := by decide +kernel
theorem dX9_isReceiver_6 : decode cX9_isReceiver 6 = .ok (.iconst 1, 1) := by decide +kernel
theorem dX9_isReceiver_7 : decode cX9_isReceiver 7 = .ok (.iaload, 1) := by decide +kernel
theorem dX9_isReceiver_8 : decode cX9_isReceiver 8 = .ok (.iconst 1, 1) := by decide +kernel
theorem dX9_isReceiver_9 : decode cX9_isReceiver 9 = .ok (.isub, 1) := by decide +kernel
theorem dX9_isReceiver_10 : decode cX9_isReceiver 10 = .ok (.invokestatic 53, 3) := by decide +kernel
theorem dX9_isReceiver_13 : decode cX9_isReceiver 13 = .ok (.ireturn, 1) := by decide +kernel
theorem dX9_receiverPart_0 : decode cX9_receiverPart 0 = .ok (.aload_n 0, 1) := by decide +kernel
theorem dX9_receiverPart_1 : decode cX9_receiverPart 1 = .ok (.getfield 7, 3) := by decide +kernel
theorem dX9_receiverPart_4 : decode cX9_receiverPart 4 = .ok (.iconst 3, 1) := by decide +kernel
theorem dX9_receiverPart_5 : decode cX9_receiverPart 5 = .ok (.iconst 4, 1) := by decide +kernel
theorem dX9_receiverPart_6 : decode cX9_receiverPart 6 = .ok (.iload_n 1, 1) := by decide +kernel
theorem dX9_receiverPart_7 : decode cX9_receiverPart 7 = .ok (.imul, 1) := by decide +kernel
theorem dX9_receiverPart_8 : decode cX9_receiverPart 8 = .ok (.iadd, 1) := by decide +kernel
theorem dX9_receiverPart_9 : decode cX9_receiverPart 9 = .ok (.iload_n 2, 1) := by decide +kernel
theorem dX9_receiverPart_10 : decode cX9_receiverPart 10 = .ok (.iadd, 1) := by decide +kernel
theorem dX9_receiverPart_11 : decode cX9_receiverPart 11 = .ok (.iaload, 1) := by decide +kernel
theorem dX9_receiverPart_12 : decode cX9_receiverPart 12 = .ok (.ireturn, 1) := by decide +kernel
theorem dX9_worthAt_0 : decode cX9_worthAt 0 = .ok (.iload_n 2, 1) := by decide +kernel
theorem dX9_worthAt_1 : decode cX9_worthAt 1 = .ok (.aload_n 0, 1) := by decide +kernel
theorem dX9_worthAt_2 : decode cX9_worthAt 2 = .ok (.iload_n 1, 1) := by decide +kernel
theorem dX9_worthAt_3 : decode cX9_worthAt 3 = .ok (.iconst 1, 1) := by decide +kernel
theorem dX9_worthAt_4 : decode cX9_worthAt 4 = .ok (.invokevirtual 57, 3) := by decide +kernel
theorem dX9_worthAt_7 : decode cX9_worthAt 7 = .ok (.imul, 1) := by decide +kernel
theorem dX9_worthAt_8 : decode cX9_worthAt 8 = .ok (.bipush 100, 2) := by decide +kernel
theorem dX9_worthAt_10 : decode cX9_worthAt 10 = .ok (.iload_n 2, 1) := by decide +kernel
theorem dX9_worthAt_11 : decode cX9_worthAt 11 = .ok (.isub, 1) := by decide +kernel
theorem dX9_worthAt_12 : decode cX9_worthAt 12 = .ok (.aload_n 0, 1) := by decide +kernel
theorem dX9_worthAt_13 : decode cX9_worthAt 13 = .ok (.iload_n 1, 1) := by decide +kernel
theorem dX9_worthAt_14 : decode cX9_worthAt 14 = .ok (.iconst 0, 1) := by decide +kernel
theorem dX9_worthAt_15 : decode cX9_worthAt 15 = .ok (.invokevirtual 57, 3) := by decide +kernel
theorem dX9_worthAt_18 : decode cX9_worthAt 18 = .ok (.imul, 1) := by decide +kernel
theorem dX9_worthAt_19 : decode cX9_worthAt 19 = .ok (.isub, 1) := by decide +kernel
theorem dX9_worthAt_20 : decode cX9_worthAt 20 = .ok (.istore_n 3, 1) := by decide +kernel
theorem dX9_worthAt_21 : decode cX9_worthAt 21 = .ok (.iload_n 3, 1) := by decide +kernel
theorem dX9_worthAt_22 : decode cX9_worthAt 22 = .ok (.ifCond .ge 7, 3) := by decide +kernel
theorem dX9_worthAt_25 : decode cX9_worthAt 25 = .ok (.iconst 0, 1) := by decide +kernel
theorem dX9_worthAt_26 : decode cX9_worthAt 26 = .ok (.goto 4, 3) := by decide +kernel
theorem dX9_worthAt_29 : decode cX9_worthAt 29 = .ok (.iload_n 3, 1) := by decide +kernel
theorem dX9_worthAt_30 : decode cX9_worthAt 30 = .ok (.ireturn, 1) := by decide +kernel
theorem dX9_acts_0 : decode cX9_acts 0 = .ok (.iload_n 2, 1) := by decide +kernel
theorem dX9_acts_1 : decode cX9_acts 1 = .ok (.aload_n 0, 1) := by decide +kernel
theorem dX9_acts_2 : decode cX9_acts 2 = .ok (.iload_n 1, 1) := by decide +kernel
theorem dX9_acts_3 : decode cX9_acts 3 = .ok (.iconst 1, 1) := by decide +kernel
theorem dX9_acts_4 : decode cX9_acts 4 = .ok (.invokevirtual 57, 3) := by decide +kernel
theorem dX9_acts_7 : decode cX9_acts 7 = .ok (.imul, 1) := by decide +kernel
theorem dX9_acts_8 : decode cX9_acts 8 = .ok (.bipush 100, 2) := by decide +kernel
theorem dX9_acts_10 : decode cX9_acts 10 = .ok (.iload_n 2, 1) := by decide +kernel
theorem dX9_acts_11 : decode cX9_acts 11 = .ok (.isub, 1) := by decide +kernel
theorem dX9_acts_12 : decode cX9_acts 12 = .ok (.aload_n 0, 1) := by decide +kernel
theorem dX9_acts_13 : decode cX9_acts 13 = .ok (.iload_n 1, 1) := by decide +kernel
theorem dX9_acts_14 : decode cX9_acts 14 = .ok (.iconst 0, 1) := by decide +kernel
theorem dX9_acts_15 : decode cX9_acts 15 = .ok (.invokevirtual 57, 3) := by decide +kernel
theorem dX9_acts_18 : decode cX9_acts 18 = .ok (.imul, 1) := by decide +kernel
theorem dX9_acts_19 : decode cX9_acts 19 = .ok (.if_icmp .lt 7, 3) := by decide +kernel
theorem dX9_acts_22 : decode cX9_acts 22 = .ok (.iconst 1, 1) := by decide +kernel
theorem dX9_acts_23 : decode cX9_acts 23 = .ok (.goto 4, 3) := by decide +kernel
theorem dX9_acts_26 : decode cX9_acts 26 = .ok (.iconst 0, 1) := by decide +kernel
theorem dX9_acts_27 : decode cX9_acts 27 = .ok (.ireturn, 1) := by decide +kernel
theorem dX9_actingAt_0 : decode cX9_actingAt 0 = .ok (.iconst 0, 1) := by decide +kernel
theorem dX9_actingAt_1 : decode cX9_actingAt 1 = .ok (.istore_n 2, 1) := by decide +kernel
theorem dX9_actingAt_2 : decode cX9_actingAt 2 = .ok (.iconst 0, 1) := by decide +kernel
theorem dX9_actingAt_3 : decode cX9_actingAt 3 = .ok (.istore_n 3, 1) := by decide +kernel
theorem dX9_actingAt_4 : decode cX9_actingAt 4 = .ok (.iload_n 3, 1) := by decide +kernel
theorem dX9_actingAt_5 : decode cX9_actingAt 5 = .ok (.aload_n 0, 1) := by decide +kernel
theorem dX9_actingAt_6 : decode cX9_actingAt 6 = .ok (.getfield 7, 3) := by decide +kernel
theorem dX9_actingAt_9 : decode cX9_actingAt 9 = .ok (.iconst 1, 1) := by decide +kernel
theorem dX9_actingAt_10 : decode cX9_actingAt 10 = .ok (.iaload, 1) := by decide +kernel
theorem dX9_actingAt_11 : decode cX9_actingAt 11 = .ok (.if_icmp .ge 28, 3) := by decide +kernel
theorem dX9_actingAt_14 : decode cX9_actingAt 14 = .ok (.iload_n 2, 1) := by decide +kernel
theorem dX9_actingAt_15 : decode cX9_actingAt 15 = .ok (.aload_n 0, 1) := by decide +kernel
theorem dX9_actingAt_16 : decode cX9_actingAt 16 = .ok (.iload_n 3, 1) := by decide +kernel
theorem dX9_actingAt_17 : decode cX9_actingAt 17 = .ok (.iload_n 1, 1) := by decide +kernel
theorem dX9_actingAt_18 : decode cX9_actingAt 18 = .ok (.invokevirtual 60, 3) := by decide +kernel
theorem dX9_actingAt_21 : decode cX9_actingAt 21 = .ok (.ifCond .eq 9, 3) := by decide +kernel
theorem dX9_actingAt_24 : decode cX9_actingAt 24 = .ok (.iconst 1, 1) := by decide +kernel
theorem dX9_actingAt_25 : decode cX9_actingAt 25 = .ok (.iload_n 3, 1) := by decide +kernel
theorem dX9_actingAt_26 : decode cX9_actingAt 26 = .ok (.ishl, 1) := by decide +kernel
theorem dX9_actingAt_27 : decode cX9_actingAt 27 = .ok (.goto 4, 3) := by decide +kernel
theorem dX9_actingAt_30 : decode cX9_actingAt 30 = .ok (.iconst 0, 1) := by decide +kernel
theorem dX9_actingAt_31 : decode cX9_actingAt 31 = .ok (.ior, 1) := by decide +kernel
theorem dX9_actingAt_32 : decode cX9_actingAt 32 = .ok (.istore_n 2, 1) := by decide +kernel
theorem dX9_actingAt_33 : decode cX9_actingAt 33 = .ok (.iinc 3 1, 3) := by decide +kernel
theorem dX9_actingAt_36 : decode cX9_actingAt 36 = .ok (.goto (-32), 3) := by decide +kernel
theorem dX9_actingAt_39 : decode cX9_actingAt 39 = .ok (.iload_n 2, 1) := by decide +kernel
theorem dX9_actingAt_40 : decode cX9_actingAt 40 = .ok (.ireturn, 1) := by decide +kernel
theorem dX9_valueAt_0 : decode cX9_valueAt 0 = .ok (.aload_n 0, 1) := by decide +kernel
theorem dX9_valueAt_1 : decode cX9_valueAt 1 = .ok (.iload_n 1, 1) := by decide +kernel
theorem dX9_valueAt_2 : decode cX9_valueAt 2 = .ok (.invokevirtual 64, 3) := by decide +kernel
theorem dX9_valueAt_5 : decode cX9_valueAt 5 = .ok (.istore_n 2, 1) := by decide +kernel
theorem dX9_valueAt_6 : decode cX9_valueAt 6 = .ok (.iconst 0, 1) := by decide +kernel
theorem dX9_valueAt_7 : decode cX9_valueAt 7 = .ok (.istore_n 3, 1) := by decide +kernel
theorem dX9_valueAt_8 : decode cX9_valueAt 8 = .ok (.iconst 0, 1) := by decide +kernel
theorem dX9_valueAt_9 : decode cX9_valueAt 9 = .ok (.istore 4, 2) := by decide +kernel
theorem dX9_valueAt_11 : decode cX9_valueAt 11 = .ok (.iconst 0, 1) := by decide +kernel
theorem dX9_valueAt_12 : decode cX9_valueAt 12 = .ok (.istore 5, 2) := by decide +kernel
theorem dX9_valueAt_14 : decode cX9_valueAt 14 = .ok (.iload 5, 2) := by decide +kernel
theorem dX9_valueAt_16 : decode cX9_valueAt 16 = .ok (.aload_n 0, 1) := by decide +kernel
theorem dX9_valueAt_17 : decode cX9_valueAt 17 = .ok (.getfield 7, 3) := by decide +kernel
theorem dX9_valueAt_20 : decode cX9_valueAt 20 = .ok (.iconst 1, 1) := by decide +kernel
theorem dX9_valueAt_21 : decode cX9_valueAt 21 = .ok (.iaload, 1) := by decide +kernel
theorem dX9_valueAt_22 : decode cX9_valueAt 22 = .ok (.if_icmp .ge 45, 3) := by decide +kernel
theorem dX9_valueAt_25 : decode cX9_valueAt 25 = .ok (.iload_n 3, 1) := by decide +kernel
theorem dX9_valueAt_26 : decode cX9_valueAt 26 = .ok (.iload_n 2, 1) := by decide +kernel
theorem dX9_valueAt_27 : decode cX9_valueAt 27 = .ok (.iload 5, 2) := by decide +kernel
theorem dX9_valueAt_29 : decode cX9_valueAt 29 = .ok (.ishr, 1) := by decide +kernel
theorem dX9_valueAt_30 : decode cX9_valueAt 30 = .ok (.iconst 1, 1) := by decide +kernel
theorem dX9_valueAt_31 : decode cX9_valueAt 31 = .ok (.iand, 1) := by decide +kernel
theorem dX9_valueAt_32 : decode cX9_valueAt 32 = .ok (.iconst 1, 1) := by decide +kernel
theorem dX9_valueAt_33 : decode cX9_valueAt 33 = .ok (.if_icmp .ne 13, 3) := by decide +kernel
theorem dX9_valueAt_36 : decode cX9_valueAt 36 = .ok (.aload_n 0, 1) := by decide +kernel
theorem dX9_valueAt_37 : decode cX9_valueAt 37 = .ok (.iload 5, 2) := by decide +kernel
theorem dX9_valueAt_39 : decode cX9_valueAt 39 = .ok (.iconst 2, 1) := by decide +kernel
theorem dX9_valueAt_40 : decode cX9_valueAt 40 = .ok (.invokevirtual 57, 3) := by decide +kernel
theorem dX9_valueAt_43 : decode cX9_valueAt 43 = .ok (.goto 4, 3) := by decide +kernel
theorem dX9_valueAt_46 : decode cX9_valueAt 46 = .ok (.iconst 0, 1) := by decide +kernel
theorem dX9_valueAt_47 : decode cX9_valueAt 47 = .ok (.iadd, 1) := by decide +kernel
theorem dX9_valueAt_48 : decode cX9_valueAt 48 = .ok (.istore_n 3, 1) := by decide +kernel
theorem dX9_valueAt_49 : decode cX9_valueAt 49 = .ok (.iload 4, 2) := by decide +kernel
theorem dX9_valueAt_51 : decode cX9_valueAt 51 = .ok (.aload_n 0, 1) := by decide +kernel
theorem dX9_valueAt_52 : decode cX9_valueAt 52 = .ok (.iload 5, 2) := by decide +kernel
theorem dX9_valueAt_54 : decode cX9_valueAt 54 = .ok (.iconst 3, 1) := by decide +kernel
theorem dX9_valueAt_55 : decode cX9_valueAt 55 = .ok (.invokevirtual 57, 3) := by decide +kernel
theorem dX9_valueAt_58 : decode cX9_valueAt 58 = .ok (.iadd, 1) := by decide +kernel
theorem dX9_valueAt_59 : decode cX9_valueAt 59 = .ok (.istore 4, 2) := by decide +kernel
theorem dX9_valueAt_61 : decode cX9_valueAt 61 = .ok (.iinc 5 1, 3) := by decide +kernel
theorem dX9_valueAt_64 : decode cX9_valueAt 64 = .ok (.goto (-50), 3) := by decide +kernel
theorem dX9_valueAt_67 : decode cX9_valueAt 67 = .ok (.iload_n 3, 1) := by decide +kernel
theorem dX9_valueAt_68 : decode cX9_valueAt 68 = .ok (.iload_n 2, 1) := by decide +kernel
theorem dX9_valueAt_69 : decode cX9_valueAt 69 = .ok (.iconst 1, 1) := by decide +kernel
theorem dX9_valueAt_70 : decode cX9_valueAt 70 = .ok (.aload_n 0, 1) := by decide +kernel
theorem dX9_valueAt_71 : decode cX9_valueAt 71 = .ok (.getfield 7, 3) := by decide +kernel
theorem dX9_valueAt_74 : decode cX9_valueAt 74 = .ok (.iconst 1, 1) := by decide +kernel
theorem dX9_valueAt_75 : decode cX9_valueAt 75 = .ok (.iaload, 1) := by decide +kernel
theorem dX9_valueAt_76 : decode cX9_valueAt 76 = .ok (.ishl, 1) := by decide +kernel
theorem dX9_valueAt_77 : decode cX9_valueAt 77 = .ok (.iconst 1, 1) := by decide +kernel
theorem dX9_valueAt_78 : decode cX9_valueAt 78 = .ok (.isub, 1) := by decide +kernel
theorem dX9_valueAt_79 : decode cX9_valueAt 79 = .ok (.if_icmp .ne 8, 3) := by decide +kernel
theorem dX9_valueAt_82 : decode cX9_valueAt 82 = .ok (.iload 4, 2) := by decide +kernel
theorem dX9_valueAt_84 : decode cX9_valueAt 84 = .ok (.goto 4, 3) := by decide +kernel
theorem dX9_valueAt_87 : decode cX9_valueAt 87 = .ok (.iconst 0, 1) := by decide +kernel
theorem dX9_valueAt_88 : decode cX9_valueAt 88 = .ok (.iadd, 1) := by decide +kernel
theorem dX9_valueAt_89 : decode cX9_valueAt 89 = .ok (.ireturn, 1) := by decide +kernel
theorem dX9_leastActing_0 : decode cX9_leastActing 0 = .ok (.bipush 100, 2) := by decide +kernel
theorem dX9_leastActing_2 : decode cX9_leastActing 2 = .ok (.istore_n 2, 1) := by decide +kernel
theorem dX9_leastActing_3 : decode cX9_leastActing 3 = .ok (.bipush 100, 2) := by decide +kernel
theorem dX9_leastActing_5 : decode cX9_leastActing 5 = .ok (.istore_n 3, 1) := by decide +kernel
theorem dX9_leastActing_6 : decode cX9_leastActing 6 = .ok (.iload_n 3, 1) := by decide +kernel
theorem dX9_leastActing_7 : decode cX9_leastActing 7 = .ok (.ifCond .lt 24, 3) := by decide +kernel
theorem dX9_leastActing_10 : decode cX9_leastActing 10 = .ok (.aload_n 0, 1) := by decide +kernel
theorem dX9_leastActing_11 : decode cX9_leastActing 11 = .ok (.iload_n 1, 1) := by decide +kernel
theorem dX9_leastActing_12 : decode cX9_leastActing 12 = .ok (.iload_n 3, 1) := by decide +kernel
theorem dX9_leastActing_13 : decode cX9_leastActing 13 = .ok (.invokevirtual 60, 3) := by decide +kernel
theorem dX9_leastActing_16 : decode cX9_leastActing 16 = .ok (.ifCond .eq 7, 3) := by decide +kernel
theorem dX9_leastActing_19 : decode cX9_leastActing 19 = .ok (.iload_n 3, 1) := by decide +kernel
theorem dX9_leastActing_20 : decode cX9_leastActing 20 = .ok (.goto 4, 3) := by decide +kernel
theorem dX9_leastActing_23 : decode cX9_leastActing 23 = .ok (.iload_n 2, 1) := by decide +kernel
theorem dX9_leastActing_24 : decode cX9_leastActing 24 = .ok (.istore_n 2, 1) := by decide +kernel
theorem dX9_leastActing_25 : decode cX9_leastActing 25 = .ok (.iinc 3 (-1), 3) := by decide +kernel
theorem dX9_leastActing_28 : decode cX9_leastActing 28 = .ok (.goto (-22), 3) := by decide +kernel
theorem dX9_leastActing_31 : decode cX9_leastActing 31 = .ok (.iload_n 2, 1) := by decide +kernel
theorem dX9_leastActing_32 : decode cX9_leastActing 32 = .ok (.ireturn, 1) := by decide +kernel
theorem dX9_isPart_0 : decode cX9_isPart 0 = .ok (.iload_n 1, 1) := by decide +kernel
theorem dX9_isPart_1 : decode cX9_isPart 1 = .ok (.iconst 0, 1) := by decide +kernel
theorem dX9_isPart_2 : decode cX9_isPart 2 = .ok (.aload_n 0, 1) := by decide +kernel
theorem dX9_isPart_3 : decode cX9_isPart 3 = .ok (.getfield 7, 3) := by decide +kernel
theorem dX9_isPart_6 : decode cX9_isPart 6 = .ok (.iconst 2, 1) := by decide +kernel
theorem dX9_isPart_7 : decode cX9_isPart 7 = .ok (.iaload, 1) := by decide +kernel
theorem dX9_isPart_8 : decode cX9_isPart 8 = .ok (.iconst 1, 1) := by decide +kernel
theorem dX9_isPart_9 : decode cX9_isPart 9 = .ok (.isub, 1) := by decide +kernel
theorem dX9_isPart_10 : decode cX9_isPart 10 = .ok (.invokestatic 53, 3) := by decide +kernel
theorem dX9_isPart_13 : decode cX9_isPart 13 = .ok (.ireturn, 1) := by decide +kernel
theorem dX9_begins_0 : decode cX9_begins 0 = .ok (.aload_n 0, 1) := by decide +kernel
theorem dX9_begins_1 : decode cX9_begins 1 = .ok (.getfield 7, 3) := by decide +kernel
theorem dX9_begins_4 : decode cX9_begins 4 = .ok (.iconst 0, 1) := by decide +kernel
theorem dX9_begins_5 : decode cX9_begins 5 = .ok (.iload_n 1, 1) := by decide +kernel
theorem dX9_begins_6 : decode cX9_begins 6 = .ok (.iastore, 1) := by decide +kernel
theorem dX9_begins_7 : decode cX9_begins 7 = .ok (.aload_n 0, 1) := by decide +kernel
theorem dX9_begins_8 : decode cX9_begins 8 = .ok (.iconst 1, 1) := by decide +kernel
theorem dX9_begins_9 : decode cX9_begins 9 = .ok (.iload_n 1, 1) := by decide +kernel
theorem dX9_begins_10 : decode cX9_begins 10 = .ok (.invokevirtual 68, 3) := by decide +kernel
theorem dX9_begins_13 : decode cX9_begins 13 = .ok (.return_, 1) := by decide +kernel
theorem dX9_takesOne_0 : decode cX9_takesOne 0 = .ok (.aload_n 0, 1) := by decide +kernel
theorem dX9_takesOne_1 : decode cX9_takesOne 1 = .ok (.iconst 0, 1) := by decide +kernel
theorem dX9_takesOne_2 : decode cX9_takesOne 2 = .ok (.putfield 72, 3) := by decide +kernel
theorem dX9_takesOne_5 : decode cX9_takesOne 5 = .ok (.aload_n 0, 1) := by decide +kernel
theorem dX9_takesOne_6 : decode cX9_takesOne 6 = .ok (.iload_n 1, 1) := by decide +kernel
theorem dX9_takesOne_7 : decode cX9_takesOne 7 = .ok (.iload_n 2, 1) := by decide +kernel
theorem dX9_takesOne_8 : decode cX9_takesOne 8 = .ok (.invokevirtual 75, 3) := by decide +kernel
theorem dX9_takesOne_11 : decode cX9_takesOne 11 = .ok (.aload_n 0, 1) := by decide +kernel
theorem dX9_takesOne_12 : decode cX9_takesOne 12 = .ok (.invokevirtual 78, 3) := by decide +kernel
theorem dX9_takesOne_15 : decode cX9_takesOne 15 = .ok (.return_, 1) := by decide +kernel
theorem dX9_takes_0 : decode cX9_takes 0 = .ok (.aload_n 0, 1) := by decide +kernel
theorem dX9_takes_1 : decode cX9_takes 1 = .ok (.getfield 72, 3) := by decide +kernel
theorem dX9_takes_4 : decode cX9_takes 4 = .ok (.istore_n 3, 1) := by decide +kernel
theorem dX9_takes_5 : decode cX9_takes 5 = .ok (.iload_n 3, 1) := by decide +kernel
theorem dX9_takes_6 : decode cX9_takes 6 = .ok (.ifCond .le 21, 3) := by decide +kernel
theorem dX9_takes_9 : decode cX9_takes 9 = .ok (.aload_n 0, 1) := by decide +kernel
theorem dX9_takes_10 : decode cX9_takes 10 = .ok (.getfield 28, 3) := by decide +kernel
theorem dX9_takes_13 : decode cX9_takes 13 = .ok (.iload_n 3, 1) := by decide +kernel
theorem dX9_takes_14 : decode cX9_takes 14 = .ok (.iconst 1, 1) := by decide +kernel
theorem dX9_takes_15 : decode cX9_takes 15 = .ok (.isub, 1) := by decide +kernel
theorem dX9_takes_16 : decode cX9_takes 16 = .ok (.iaload, 1) := by decide +kernel
theorem dX9_takes_17 : decode cX9_takes 17 = .ok (.iload_n 2, 1) := by decide +kernel
theorem dX9_takes_18 : decode cX9_takes 18 = .ok (.if_icmp .le 9, 3) := by decide +kernel
theorem dX9_takes_21 : decode cX9_takes 21 = .ok (.iinc 3 (-1), 3) := by decide +kernel
theorem dX9_takes_24 : decode cX9_takes 24 = .ok (.goto (-19), 3) := by decide +kernel
theorem dX9_takes_27 : decode cX9_takes 27 = .ok (.iload_n 3, 1) := by decide +kernel
theorem dX9_takes_28 : decode cX9_takes 28 = .ok (.ifCond .le 30, 3) := by decide +kernel
theorem dX9_takes_31 : decode cX9_takes 31 = .ok (.aload_n 0, 1) := by decide +kernel
theorem dX9_takes_32 : decode cX9_takes 32 = .ok (.getfield 28, 3) := by decide +kernel
theorem dX9_takes_35 : decode cX9_takes 35 = .ok (.iload_n 3, 1) := by decide +kernel
theorem dX9_takes_36 : decode cX9_takes 36 = .ok (.iconst 1, 1) := by decide +kernel
theorem dX9_takes_37 : decode cX9_takes 37 = .ok (.isub, 1) := by decide +kernel
theorem dX9_takes_38 : decode cX9_takes 38 = .ok (.iaload, 1) := by decide +kernel
theorem dX9_takes_39 : decode cX9_takes 39 = .ok (.iload_n 2, 1) := by decide +kernel
theorem dX9_takes_40 : decode cX9_takes 40 = .ok (.if_icmp .ne 18, 3) := by decide +kernel
theorem dX9_takes_43 : decode cX9_takes 43 = .ok (.aload_n 0, 1) := by decide +kernel
theorem dX9_takes_44 : decode cX9_takes 44 = .ok (.getfield 25, 3) := by decide +kernel
theorem dX9_takes_47 : decode cX9_takes 47 = .ok (.iload_n 3, 1) := by decide +kernel
theorem dX9_takes_48 : decode cX9_takes 48 = .ok (.iconst 1, 1) := by decide +kernel
theorem dX9_takes_49 : decode cX9_takes 49 = .ok (.isub, 1) := by decide +kernel
theorem dX9_takes_50 : decode cX9_takes 50 = .ok (.dup2, 1) := by decide +kernel
theorem dX9_takes_51 : decode cX9_takes 51 = .ok (.iaload, 1) := by decide +kernel
theorem dX9_takes_52 : decode cX9_takes 52 = .ok (.iload_n 1, 1) := by decide +kernel
theorem dX9_takes_53 : decode cX9_takes 53 = .ok (.iadd, 1) := by decide +kernel
theorem dX9_takes_54 : decode cX9_takes 54 = .ok (.iastore, 1) := by decide +kernel
theorem dX9_takes_55 : decode cX9_takes 55 = .ok (.goto 81, 3) := by decide +kernel
theorem dX9_takes_58 : decode cX9_takes 58 = .ok (.iload_n 1, 1) := by decide +kernel
theorem dX9_takes_59 : decode cX9_takes 59 = .ok (.ifCond .le 77, 3) := by decide +kernel
theorem dX9_takes_62 : decode cX9_takes 62 = .ok (.aload_n 0, 1) := by decide +kernel
theorem dX9_takes_63 : decode cX9_takes 63 = .ok (.getfield 72, 3) := by decide +kernel
theorem dX9_takes_66 : decode cX9_takes 66 = .ok (.istore 4, 2) := by decide +kernel
theorem dX9_takes_68 : decode cX9_takes 68 = .ok (.iload 4, 2) := by decide +kernel
theorem dX9_takes_70 : decode cX9_takes 70 = .ok (.iload_n 3, 1) := by decide +kernel
theorem dX9_takes_71 : decode cX9_takes 71 = .ok (.if_icmp .le 41, 3) := by decide +kernel
theorem dX9_takes_74 : decode cX9_takes 74 = .ok (.aload_n 0, 1) := by decide +kernel
theorem dX9_takes_75 : decode cX9_takes 75 = .ok (.getfield 25, 3) := by decide +kernel
theorem dX9_takes_78 : decode cX9_takes 78 = .ok (.iload 4, 2) := by decide +kernel
theorem dX9_takes_80 : decode cX9_takes 80 = .ok (.aload_n 0, 1) := by decide +kernel
theorem dX9_takes_81 : decode cX9_takes 81 = .ok (.getfield 25, 3) := by decide +kernel
theorem dX9_takes_84 : decode cX9_takes 84 = .ok (.iload 4, 2) := by decide +kernel
theorem dX9_takes_86 : decode cX9_takes 86 = .ok (.iconst 1, 1) := by decide +kernel
theorem dX9_takes_87 : decode cX9_takes 87 = .ok (.isub, 1) := by decide +kernel
theorem dX9_takes_88 : decode cX9_takes 88 = .ok (.iaload, 1) := by decide +kernel
theorem dX9_takes_89 : decode cX9_takes 89 = .ok (.iastore, 1) := by decide +kernel
theorem dX9_takes_90 : decode cX9_takes 90 = .ok (.aload_n 0, 1) := by decide +kernel
theorem dX9_takes_91 : decode cX9_takes 91 = .ok (.getfield 28, 3) := by decide +kernel
theorem dX9_takes_94 : decode cX9_takes 94 = .ok (.iload 4, 2) := by decide +kernel
theorem dX9_takes_96 : decode cX9_takes 96 = .ok (.aload_n 0, 1) := by decide +kernel
theorem dX9_takes_97 : decode cX9_takes 97 = .ok (.getfield 28, 3) := by decide +kernel
theorem dX9_takes_100 : decode cX9_takes 100 = .ok (.iload 4, 2) := by decide +kernel
theorem dX9_takes_102 : decode cX9_takes 102 = .ok (.iconst 1, 1) := by decide +kernel
theorem dX9_takes_103 : decode cX9_takes 103 = .ok (.isub, 1) := by decide +kernel
theorem dX9_takes_104 : decode cX9_takes 104 = .ok (.iaload, 1) := by decide +kernel
theorem dX9_takes_105 : decode cX9_takes 105 = .ok (.iastore, 1) := by decide +kernel
theorem dX9_takes_106 : decode cX9_takes 106 = .ok (.iinc 4 (-1), 3) := by decide +kernel
theorem dX9_takes_109 : decode cX9_takes 109 = .ok (.goto (-41), 3) := by decide +kernel
theorem dX9_takes_112 : decode cX9_takes 112 = .ok (.aload_n 0, 1) := by decide +kernel
theorem dX9_takes_113 : decode cX9_takes 113 = .ok (.getfield 25, 3) := by decide +kernel
theorem dX9_takes_116 : decode cX9_takes 116 = .ok (.iload_n 3, 1) := by decide +kernel
theorem dX9_takes_117 : decode cX9_takes 117 = .ok (.iload_n 1, 1) := by decide +kernel
theorem dX9_takes_118 : decode cX9_takes 118 = .ok (.iastore, 1) := by decide +kernel
theorem dX9_takes_119 : decode cX9_takes 119 = .ok (.aload_n 0, 1) := by decide +kernel
theorem dX9_takes_120 : decode cX9_takes 120 = .ok (.getfield 28, 3) := by decide +kernel
theorem dX9_takes_123 : decode cX9_takes 123 = .ok (.iload_n 3, 1) := by decide +kernel
theorem dX9_takes_124 : decode cX9_takes 124 = .ok (.iload_n 2, 1) := by decide +kernel
theorem dX9_takes_125 : decode cX9_takes 125 = .ok (.iastore, 1) := by decide +kernel
theorem dX9_takes_126 : decode cX9_takes 126 = .ok (.aload_n 0, 1) := by decide +kernel
theorem dX9_takes_127 : decode cX9_takes 127 = .ok (.dup, 1) := by decide +kernel
theorem dX9_takes_128 : decode cX9_takes 128 = .ok (.getfield 72, 3) := by decide +kernel
theorem dX9_takes_131 : decode cX9_takes 131 = .ok (.iconst 1, 1) := by decide +kernel
theorem dX9_takes_132 : decode cX9_takes 132 = .ok (.iadd, 1) := by decide +kernel
theorem dX9_takes_133 : decode cX9_takes 133 = .ok (.putfield 72, 3) := by decide +kernel
theorem dX9_takes_136 : decode cX9_takes 136 = .ok (.return_, 1) := by decide +kernel
theorem dX9_areWell_0 : decode cX9_areWell 0 = .ok (.iconst 0, 1) := by decide +kernel
theorem dX9_areWell_1 : decode cX9_areWell 1 = .ok (.istore_n 1, 1) := by decide +kernel
theorem dX9_areWell_2 : decode cX9_areWell 2 = .ok (.iconst 0, 1) := by decide +kernel
theorem dX9_areWell_3 : decode cX9_areWell 3 = .ok (.istore_n 2, 1) := by decide +kernel
theorem dX9_areWell_4 : decode cX9_areWell 4 = .ok (.iload_n 2, 1) := by decide +kernel
theorem dX9_areWell_5 : decode cX9_areWell 5 = .ok (.aload_n 0, 1) := by decide +kernel
theorem dX9_areWell_6 : decode cX9_areWell 6 = .ok (.getfield 72, 3) := by decide +kernel
theorem dX9_areWell_9 : decode cX9_areWell 9 = .ok (.if_icmp .ge 20, 3) := by decide +kernel
theorem dX9_areWell_12 : decode cX9_areWell 12 = .ok (.iload_n 1, 1) := by decide +kernel
theorem dX9_areWell_13 : decode cX9_areWell 13 = .ok (.aload_n 0, 1) := by decide +kernel
theorem dX9_areWell_14 : decode cX9_areWell 14 = .ok (.getfield 25, 3) := by decide +kernel
theorem dX9_areWell_17 : decode cX9_areWell 17 = .ok (.iload_n 2, 1) := by decide +kernel
theorem dX9_areWell_18 : decode cX9_areWell 18 = .ok (.iaload, 1) := by decide +kernel
theorem dX9_areWell_19 : decode cX9_areWell 19 = .ok (.invokestatic 43, 3) := by decide +kernel
theorem dX9_areWell_22 : decode cX9_areWell 22 = .ok (.istore_n 1, 1) := by decide +kernel
theorem dX9_areWell_23 : decode cX9_areWell 23 = .ok (.iinc 2 1, 3) := by decide +kernel
theorem dX9_areWell_26 : decode cX9_areWell 26 = .ok (.goto (-22), 3) := by decide +kernel
theorem dX9_areWell_29 : decode cX9_areWell 29 = .ok (.aload_n 0, 1) := by decide +kernel
theorem dX9_areWell_30 : decode cX9_areWell 30 = .ok (.getfield 72, 3) := by decide +kernel
theorem dX9_areWell_33 : decode cX9_areWell 33 = .ok (.bipush 6, 2) := by decide +kernel
theorem dX9_areWell_35 : decode cX9_areWell 35 = .ok (.if_icmp .gt 7, 3) := by decide +kernel
theorem dX9_areWell_38 : decode cX9_areWell 38 = .ok (.iconst 1, 1) := by decide +kernel
theorem dX9_areWell_39 : decode cX9_areWell 39 = .ok (.goto 4, 3) := by decide +kernel
theorem dX9_areWell_42 : decode cX9_areWell 42 = .ok (.iconst 0, 1) := by decide +kernel
theorem dX9_areWell_43 : decode cX9_areWell 43 = .ok (.istore_n 2, 1) := by decide +kernel
theorem dX9_areWell_44 : decode cX9_areWell 44 = .ok (.iconst 0, 1) := by decide +kernel
theorem dX9_areWell_45 : decode cX9_areWell 45 = .ok (.istore_n 3, 1) := by decide +kernel
theorem dX9_areWell_46 : decode cX9_areWell 46 = .ok (.iload_n 3, 1) := by decide +kernel
theorem dX9_areWell_47 : decode cX9_areWell 47 = .ok (.aload_n 0, 1) := by decide +kernel
theorem dX9_areWell_48 : decode cX9_areWell 48 = .ok (.getfield 72, 3) := by decide +kernel
theorem dX9_areWell_51 : decode cX9_areWell 51 = .ok (.if_icmp .ge 41, 3) := by decide +kernel
theorem dX9_areWell_54 : decode cX9_areWell 54 = .ok (.aload_n 0, 1) := by decide +kernel
theorem dX9_areWell_55 : decode cX9_areWell 55 = .ok (.getfield 25, 3) := by decide +kernel
theorem dX9_areWell_58 : decode cX9_areWell 58 = .ok (.iload_n 3, 1) := by decide +kernel
theorem dX9_areWell_59 : decode cX9_areWell 59 = .ok (.dup2, 1) := by decide +kernel
theorem dX9_areWell_60 : decode cX9_areWell 60 = .ok (.iaload, 1) := by decide +kernel
theorem dX9_areWell_61 : decode cX9_areWell 61 = .ok (.iload_n 1, 1) := by decide +kernel
theorem dX9_areWell_62 : decode cX9_areWell 62 = .ok (.idiv, 1) := by decide +kernel
theorem dX9_areWell_63 : decode cX9_areWell 63 = .ok (.iastore, 1) := by decide +kernel
theorem dX9_areWell_64 : decode cX9_areWell 64 = .ok (.iload_n 2, 1) := by decide +kernel
theorem dX9_areWell_65 : decode cX9_areWell 65 = .ok (.ifCond .eq 19, 3) := by decide +kernel
theorem dX9_areWell_68 : decode cX9_areWell 68 = .ok (.aload_n 0, 1) := by decide +kernel
theorem dX9_areWell_69 : decode cX9_areWell 69 = .ok (.getfield 25, 3) := by decide +kernel
theorem dX9_areWell_72 : decode cX9_areWell 72 = .ok (.iload_n 3, 1) := by decide +kernel
theorem dX9_areWell_73 : decode cX9_areWell 73 = .ok (.iaload, 1) := by decide +kernel
theorem dX9_areWell_74 : decode cX9_areWell 74 = .ok (.sipush 999, 3) := by decide +kernel
theorem dX9_areWell_77 : decode cX9_areWell 77 = .ok (.if_icmp .gt 7, 3) := by decide +kernel
theorem dX9_areWell_80 : decode cX9_areWell 80 = .ok (.iconst 1, 1) := by decide +kernel
theorem dX9_areWell_81 : decode cX9_areWell 81 = .ok (.goto 4, 3) := by decide +kernel
theorem dX9_areWell_84 : decode cX9_areWell 84 = .ok (.iconst 0, 1) := by decide +kernel
theorem dX9_areWell_85 : decode cX9_areWell 85 = .ok (.istore_n 2, 1) := by decide +kernel
theorem dX9_areWell_86 : decode cX9_areWell 86 = .ok (.iinc 3 1, 3) := by decide +kernel
theorem dX9_areWell_89 : decode cX9_areWell 89 = .ok (.goto (-43), 3) := by decide +kernel
theorem dX9_areWell_92 : decode cX9_areWell 92 = .ok (.iload_n 2, 1) := by decide +kernel
theorem dX9_areWell_93 : decode cX9_areWell 93 = .ok (.ireturn, 1) := by decide +kernel
theorem dX9_gives_0 : decode cX9_gives 0 = .ok (.aload_n 0, 1) := by decide +kernel
theorem dX9_gives_1 : decode cX9_gives 1 = .ok (.getfield 7, 3) := by decide +kernel
theorem dX9_gives_4 : decode cX9_gives 4 = .ok (.iconst 2, 1) := by decide +kernel
theorem dX9_gives_5 : decode cX9_gives 5 = .ok (.aload_n 0, 1) := by decide +kernel
theorem dX9_gives_6 : decode cX9_gives 6 = .ok (.getfield 72, 3) := by decide +kernel
theorem dX9_gives_9 : decode cX9_gives 9 = .ok (.iastore, 1) := by decide +kernel
theorem dX9_gives_10 : decode cX9_gives 10 = .ok (.iconst 0, 1) := by decide +kernel
theorem dX9_gives_11 : decode cX9_gives 11 = .ok (.istore_n 1, 1) := by decide +kernel
theorem dX9_gives_12 : decode cX9_gives 12 = .ok (.iload_n 1, 1) := by decide +kernel
theorem dX9_gives_13 : decode cX9_gives 13 = .ok (.bipush 6, 2) := by decide +kernel
theorem dX9_gives_15 : decode cX9_gives 15 = .ok (.if_icmp .ge 63, 3) := by decide +kernel
theorem dX9_gives_18 : decode cX9_gives 18 = .ok (.aload_n 0, 1) := by decide +kernel
theorem dX9_gives_19 : decode cX9_gives 19 = .ok (.getfield 7, 3) := by decide +kernel
theorem dX9_gives_22 : decode cX9_gives 22 = .ok (.bipush 23, 2) := by decide +kernel
theorem dX9_gives_24 : decode cX9_gives 24 = .ok (.iload_n 1, 1) := by decide +kernel
theorem dX9_gives_25 : decode cX9_gives 25 = .ok (.iadd, 1) := by decide +kernel
theorem dX9_gives_26 : decode cX9_gives 26 = .ok (.iload_n 1, 1) := by decide +kernel
theorem dX9_gives_27 : decode cX9_gives 27 = .ok (.aload_n 0, 1) := by decide +kernel
theorem dX9_gives_28 : decode cX9_gives 28 = .ok (.getfield 72, 3) := by decide +kernel
theorem dX9_gives_31 : decode cX9_gives 31 = .ok (.if_icmp .ge 12, 3) := by decide +kernel
theorem dX9_gives_34 : decode cX9_gives 34 = .ok (.aload_n 0, 1) := by decide +kernel
theorem dX9_gives_35 : decode cX9_gives 35 = .ok (.getfield 25, 3) := by decide +kernel
theorem dX9_gives_38 : decode cX9_gives 38 = .ok (.iload_n 1, 1) := by decide +kernel
theorem dX9_gives_39 : decode cX9_gives 39 = .ok (.iaload, 1) := by decide +kernel
theorem dX9_gives_40 : decode cX9_gives 40 = .ok (.goto 4, 3) := by decide +kernel
theorem dX9_gives_43 : decode cX9_gives 43 = .ok (.iconst 0, 1) := by decide +kernel
theorem dX9_gives_44 : decode cX9_gives 44 = .ok (.iastore, 1) := by decide +kernel
theorem dX9_gives_45 : decode cX9_gives 45 = .ok (.aload_n 0, 1) := by decide +kernel
theorem dX9_gives_46 : decode cX9_gives 46 = .ok (.getfield 7, 3) := by decide +kernel
theorem dX9_gives_49 : decode cX9_gives 49 = .ok (.bipush 29, 2) := by decide +kernel
theorem dX9_gives_51 : decode cX9_gives 51 = .ok (.iload_n 1, 1) := by decide +kernel
theorem dX9_gives_52 : decode cX9_gives 52 = .ok (.iadd, 1) := by decide +kernel
theorem dX9_gives_53 : decode cX9_gives 53 = .ok (.iload_n 1, 1) := by decide +kernel
theorem dX9_gives_54 : decode cX9_gives 54 = .ok (.aload_n 0, 1) := by decide +kernel
theorem dX9_gives_55 : decode cX9_gives 55 = .ok (.getfield 72, 3) := by decide +kernel
theorem dX9_gives_58 : decode cX9_gives 58 = .ok (.if_icmp .ge 12, 3) := by decide +kernel
theorem dX9_gives_61 : decode cX9_gives 61 = .ok (.aload_n 0, 1) := by decide +kernel
theorem dX9_gives_62 : decode cX9_gives 62 = .ok (.getfield 28, 3) := by decide +kernel
theorem dX9_gives_65 : decode cX9_gives 65 = .ok (.iload_n 1, 1) := by decide +kernel
theorem dX9_gives_66 : decode cX9_gives 66 = .ok (.iaload, 1) := by decide +kernel
theorem dX9_gives_67 : decode cX9_gives 67 = .ok (.goto 4, 3) := by decide +kernel
theorem dX9_gives_70 : decode cX9_gives 70 = .ok (.iconst 0, 1) := by decide +kernel
theorem dX9_gives_71 : decode cX9_gives 71 = .ok (.iastore, 1) := by decide +kernel
theorem dX9_gives_72 : decode cX9_gives 72 = .ok (.iinc 1 1, 3) := by decide +kernel
theorem dX9_gives_75 : decode cX9_gives 75 = .ok (.goto (-63), 3) := by decide +kernel
theorem dX9_gives_78 : decode cX9_gives 78 = .ok (.return_, 1) := by decide +kernel
theorem dX9_weightSum_0 : decode cX9_weightSum 0 = .ok (.iconst 0, 1) := by decide +kernel
theorem dX9_weightSum_1 : decode cX9_weightSum 1 = .ok (.istore_n 1, 1) := by decide +kernel
theorem dX9_weightSum_2 : decode cX9_weightSum 2 = .ok (.iconst 0, 1) := by decide +kernel
theorem dX9_weightSum_3 : decode cX9_weightSum 3 = .ok (.istore_n 2, 1) := by decide +kernel
theorem dX9_weightSum_4 : decode cX9_weightSum 4 = .ok (.iload_n 2, 1) := by decide +kernel
theorem dX9_weightSum_5 : decode cX9_weightSum 5 = .ok (.aload_n 0, 1) := by decide +kernel
theorem dX9_weightSum_6 : decode cX9_weightSum 6 = .ok (.getfield 7, 3) := by decide +kernel
theorem dX9_weightSum_9 : decode cX9_weightSum 9 = .ok (.iconst 2, 1) := by decide +kernel
theorem dX9_weightSum_10 : decode cX9_weightSum 10 = .ok (.iaload, 1) := by decide +kernel
theorem dX9_weightSum_11 : decode cX9_weightSum 11 = .ok (.if_icmp .ge 21, 3) := by decide +kernel
theorem dX9_weightSum_14 : decode cX9_weightSum 14 = .ok (.iload_n 1, 1) := by decide +kernel
theorem dX9_weightSum_15 : decode cX9_weightSum 15 = .ok (.aload_n 0, 1) := by decide +kernel
theorem dX9_weightSum_16 : decode cX9_weightSum 16 = .ok (.getfield 7, 3) := by decide +kernel
theorem dX9_weightSum_19 : decode cX9_weightSum 19 = .ok (.bipush 23, 2) := by decide +kernel
theorem dX9_weightSum_21 : decode cX9_weightSum 21 = .ok (.iload_n 2, 1) := by decide +kernel
theorem dX9_weightSum_22 : decode cX9_weightSum 22 = .ok (.iadd, 1) := by decide +kernel
theorem dX9_weightSum_23 : decode cX9_weightSum 23 = .ok (.iaload, 1) := by decide +kernel
theorem dX9_weightSum_24 : decode cX9_weightSum 24 = .ok (.iadd, 1) := by decide +kernel
theorem dX9_weightSum_25 : decode cX9_weightSum 25 = .ok (.istore_n 1, 1) := by decide +kernel
theorem dX9_weightSum_26 : decode cX9_weightSum 26 = .ok (.iinc 2 1, 3) := by decide +kernel
theorem dX9_weightSum_29 : decode cX9_weightSum 29 = .ok (.goto (-25), 3) := by decide +kernel
theorem dX9_weightSum_32 : decode cX9_weightSum 32 = .ok (.iload_n 1, 1) := by decide +kernel
theorem dX9_weightSum_33 : decode cX9_weightSum 33 = .ok (.ireturn, 1) := by decide +kernel
theorem dX9_takeMean_0 : decode cX9_takeMean 0 = .ok (.iconst 0, 1) := by decide +kernel
theorem dX9_takeMean_1 : decode cX9_takeMean 1 = .ok (.istore_n 1, 1) := by decide +kernel
theorem dX9_takeMean_2 : decode cX9_takeMean 2 = .ok (.iconst 0, 1) := by decide +kernel
theorem dX9_takeMean_3 : decode cX9_takeMean 3 = .ok (.istore_n 2, 1) := by decide +kernel
theorem dX9_takeMean_4 : decode cX9_takeMean 4 = .ok (.iload_n 2, 1) := by decide +kernel
theorem dX9_takeMean_5 : decode cX9_takeMean 5 = .ok (.aload_n 0, 1) := by decide +kernel
theorem dX9_takeMean_6 : decode cX9_takeMean 6 = .ok (.getfield 7, 3) := by decide +kernel
theorem dX9_takeMean_9 : decode cX9_takeMean 9 = .ok (.iconst 2, 1) := by decide +kernel
theorem dX9_takeMean_10 : decode cX9_takeMean 10 = .ok (.iaload, 1) := by decide +kernel
theorem dX9_takeMean_11 : decode cX9_takeMean 11 = .ok (.if_icmp .ge 35, 3) := by decide +kernel
theorem dX9_takeMean_14 : decode cX9_takeMean 14 = .ok (.iload_n 1, 1) := by decide +kernel
theorem dX9_takeMean_15 : decode cX9_takeMean 15 = .ok (.aload_n 0, 1) := by decide +kernel
theorem dX9_takeMean_16 : decode cX9_takeMean 16 = .ok (.getfield 7, 3) := by decide +kernel
theorem dX9_takeMean_19 : decode cX9_takeMean 19 = .ok (.bipush 23, 2) := by decide +kernel
theorem dX9_takeMean_21 : decode cX9_takeMean 21 = .ok (.iload_n 2, 1) := by decide +kernel
theorem dX9_takeMean_22 : decode cX9_takeMean 22 = .ok (.iadd, 1) := by decide +kernel
theorem dX9_takeMean_23 : decode cX9_takeMean 23 = .ok (.iaload, 1) := by decide +kernel
theorem dX9_takeMean_24 : decode cX9_takeMean 24 = .ok (.aload_n 0, 1) := by decide +kernel
theorem dX9_takeMean_25 : decode cX9_takeMean 25 = .ok (.aload_n 0, 1) := by decide +kernel
theorem dX9_takeMean_26 : decode cX9_takeMean 26 = .ok (.getfield 7, 3) := by decide +kernel
theorem dX9_takeMean_29 : decode cX9_takeMean 29 = .ok (.bipush 29, 2) := by decide +kernel
theorem dX9_takeMean_31 : decode cX9_takeMean 31 = .ok (.iload_n 2, 1) := by decide +kernel
theorem dX9_takeMean_32 : decode cX9_takeMean 32 = .ok (.iadd, 1) := by decide +kernel
theorem dX9_takeMean_33 : decode cX9_takeMean 33 = .ok (.iaload, 1) := by decide +kernel
theorem dX9_takeMean_34 : decode cX9_takeMean 34 = .ok (.invokevirtual 81, 3) := by decide +kernel
theorem dX9_takeMean_37 : decode cX9_takeMean 37 = .ok (.imul, 1) := by decide +kernel
theorem dX9_takeMean_38 : decode cX9_takeMean 38 = .ok (.iadd, 1) := by decide +kernel
theorem dX9_takeMean_39 : decode cX9_takeMean 39 = .ok (.istore_n 1, 1) := by decide +kernel
theorem dX9_takeMean_40 : decode cX9_takeMean 40 = .ok (.iinc 2 1, 3) := by decide +kernel
theorem dX9_takeMean_43 : decode cX9_takeMean 43 = .ok (.goto (-39), 3) := by decide +kernel
theorem dX9_takeMean_46 : decode cX9_takeMean 46 = .ok (.aload_n 0, 1) := by decide +kernel
theorem dX9_takeMean_47 : decode cX9_takeMean 47 = .ok (.iload_n 1, 1) := by decide +kernel
theorem dX9_takeMean_48 : decode cX9_takeMean 48 = .ok (.aload_n 0, 1) := by decide +kernel
theorem dX9_takeMean_49 : decode cX9_takeMean 49 = .ok (.invokevirtual 84, 3) := by decide +kernel
theorem dX9_takeMean_52 : decode cX9_takeMean 52 = .ok (.invokevirtual 88, 3) := by decide +kernel
theorem dX9_takeMean_55 : decode cX9_takeMean 55 = .ok (.return_, 1) := by decide +kernel
theorem dX9_takeEnvelope_0 : decode cX9_takeEnvelope 0 = .ok (.aload_n 0, 1) := by decide +kernel
theorem dX9_takeEnvelope_1 : decode cX9_takeEnvelope 1 = .ok (.iload_n 1, 1) := by decide +kernel
theorem dX9_takeEnvelope_2 : decode cX9_takeEnvelope 2 = .ok (.invokevirtual 81, 3) := by decide +kernel
theorem dX9_takeEnvelope_5 : decode cX9_takeEnvelope 5 = .ok (.istore_n 2, 1) := by decide +kernel
theorem dX9_takeEnvelope_6 : decode cX9_takeEnvelope 6 = .ok (.iconst 1, 1) := by decide +kernel
theorem dX9_takeEnvelope_7 : decode cX9_takeEnvelope 7 = .ok (.istore_n 3, 1) := by decide +kernel
theorem dX9_takeEnvelope_8 : decode cX9_takeEnvelope 8 = .ok (.aload_n 0, 1) := by decide +kernel
theorem dX9_takeEnvelope_9 : decode cX9_takeEnvelope 9 = .ok (.iload_n 1, 1) := by decide +kernel
theorem dX9_takeEnvelope_10 : decode cX9_takeEnvelope 10 = .ok (.putfield 91, 3) := by decide +kernel
theorem dX9_takeEnvelope_13 : decode cX9_takeEnvelope 13 = .ok (.aload_n 0, 1) := by decide +kernel
theorem dX9_takeEnvelope_14 : decode cX9_takeEnvelope 14 = .ok (.iload_n 1, 1) := by decide +kernel
theorem dX9_takeEnvelope_15 : decode cX9_takeEnvelope 15 = .ok (.putfield 94, 3) := by decide +kernel
theorem dX9_takeEnvelope_18 : decode cX9_takeEnvelope 18 = .ok (.iload_n 1, 1) := by decide +kernel
theorem dX9_takeEnvelope_19 : decode cX9_takeEnvelope 19 = .ok (.iconst 1, 1) := by decide +kernel
theorem dX9_takeEnvelope_20 : decode cX9_takeEnvelope 20 = .ok (.isub, 1) := by decide +kernel
theorem dX9_takeEnvelope_21 : decode cX9_takeEnvelope 21 = .ok (.istore 4, 2) := by decide +kernel
theorem dX9_takeEnvelope_23 : decode cX9_takeEnvelope 23 = .ok (.iload 4, 2) := by decide +kernel
theorem dX9_takeEnvelope_25 : decode cX9_takeEnvelope 25 = .ok (.ifCond .lt 85, 3) := by decide +kernel
theorem dX9_takeEnvelope_28 : decode cX9_takeEnvelope 28 = .ok (.bipush 100, 2) := by decide +kernel
theorem dX9_takeEnvelope_30 : decode cX9_takeEnvelope 30 = .ok (.istore 5, 2) := by decide +kernel
theorem dX9_takeEnvelope_32 : decode cX9_takeEnvelope 32 = .ok (.iload 5, 2) := by decide +kernel
theorem dX9_takeEnvelope_34 : decode cX9_takeEnvelope 34 = .ok (.iload_n 1, 1) := by decide +kernel
theorem dX9_takeEnvelope_35 : decode cX9_takeEnvelope 35 = .ok (.if_icmp .le 69, 3) := by decide +kernel
theorem dX9_takeEnvelope_38 : decode cX9_takeEnvelope 38 = .ok (.iload 5, 2) := by decide +kernel
theorem dX9_takeEnvelope_40 : decode cX9_takeEnvelope 40 = .ok (.iload_n 1, 1) := by decide +kernel
theorem dX9_takeEnvelope_41 : decode cX9_takeEnvelope 41 = .ok (.isub, 1) := by decide +kernel
theorem dX9_takeEnvelope_42 : decode cX9_takeEnvelope 42 = .ok (.aload_n 0, 1) := by decide +kernel
theorem dX9_takeEnvelope_43 : decode cX9_takeEnvelope 43 = .ok (.iload 4, 2) := by decide +kernel
theorem dX9_takeEnvelope_45 : decode cX9_takeEnvelope 45 = .ok (.invokevirtual 81, 3) := by decide +kernel
theorem dX9_takeEnvelope_48 : decode cX9_takeEnvelope 48 = .ok (.imul, 1) := by decide +kernel
theorem dX9_takeEnvelope_49 : decode cX9_takeEnvelope 49 = .ok (.iload_n 1, 1) := by decide +kernel
theorem dX9_takeEnvelope_50 : decode cX9_takeEnvelope 50 = .ok (.iload 4, 2) := by decide +kernel
theorem dX9_takeEnvelope_52 : decode cX9_takeEnvelope 52 = .ok (.isub, 1) := by decide +kernel
theorem dX9_takeEnvelope_53 : decode cX9_takeEnvelope 53 = .ok (.aload_n 0, 1) := by decide +kernel
theorem dX9_takeEnvelope_54 : decode cX9_takeEnvelope 54 = .ok (.iload 5, 2) := by decide +kernel
theorem dX9_takeEnvelope_56 : decode cX9_takeEnvelope 56 = .ok (.invokevirtual 81, 3) := by decide +kernel
theorem dX9_takeEnvelope_59 : decode cX9_takeEnvelope 59 = .ok (.imul, 1) := by decide +kernel
theorem dX9_takeEnvelope_60 : decode cX9_takeEnvelope 60 = .ok (.iadd, 1) := by decide +kernel
theorem dX9_takeEnvelope_61 : decode cX9_takeEnvelope 61 = .ok (.istore 6, 2) := by decide +kernel
theorem dX9_takeEnvelope_63 : decode cX9_takeEnvelope 63 = .ok (.iload 6, 2) := by decide +kernel
theorem dX9_takeEnvelope_65 : decode cX9_takeEnvelope 65 = .ok (.iload_n 3, 1) := by decide +kernel
theorem dX9_takeEnvelope_66 : decode cX9_takeEnvelope 66 = .ok (.imul, 1) := by decide +kernel
theorem dX9_takeEnvelope_67 : decode cX9_takeEnvelope 67 = .ok (.iload_n 2, 1) := by decide +kernel
theorem dX9_takeEnvelope_68 : decode cX9_takeEnvelope 68 = .ok (.iload 5, 2) := by decide +kernel
theorem dX9_takeEnvelope_70 : decode cX9_takeEnvelope 70 = .ok (.iload 4, 2) := by decide +kernel
theorem dX9_takeEnvelope_72 : decode cX9_takeEnvelope 72 = .ok (.isub, 1) := by decide +kernel
theorem dX9_takeEnvelope_73 : decode cX9_takeEnvelope 73 = .ok (.imul, 1) := by decide +kernel
theorem dX9_takeEnvelope_74 : decode cX9_takeEnvelope 74 = .ok (.if_icmp .lt 24, 3) := by decide +kernel
theorem dX9_takeEnvelope_77 : decode cX9_takeEnvelope 77 = .ok (.iload 6, 2) := by decide +kernel
theorem dX9_takeEnvelope_79 : decode cX9_takeEnvelope 79 = .ok (.istore_n 2, 1) := by decide +kernel
theorem dX9_takeEnvelope_80 : decode cX9_takeEnvelope 80 = .ok (.iload 5, 2) := by decide +kernel
theorem dX9_takeEnvelope_82 : decode cX9_takeEnvelope 82 = .ok (.iload 4, 2) := by decide +kernel
theorem dX9_takeEnvelope_84 : decode cX9_takeEnvelope 84 = .ok (.isub, 1) := by decide +kernel
theorem dX9_takeEnvelope_85 : decode cX9_takeEnvelope 85 = .ok (.istore_n 3, 1) := by decide +kernel
theorem dX9_takeEnvelope_86 : decode cX9_takeEnvelope 86 = .ok (.aload_n 0, 1) := by decide +kernel
theorem dX9_takeEnvelope_87 : decode cX9_takeEnvelope 87 = .ok (.iload 4, 2) := by decide +kernel
theorem dX9_takeEnvelope_89 : decode cX9_takeEnvelope 89 = .ok (.putfield 91, 3) := by decide +kernel
theorem dX9_takeEnvelope_92 : decode cX9_takeEnvelope 92 = .ok (.aload_n 0, 1) := by decide +kernel
theorem dX9_takeEnvelope_93 : decode cX9_takeEnvelope 93 = .ok (.iload 5, 2) := by decide +kernel
theorem dX9_takeEnvelope_95 : decode cX9_takeEnvelope 95 = .ok (.putfield 94, 3) := by decide +kernel
theorem dX9_takeEnvelope_98 : decode cX9_takeEnvelope 98 = .ok (.iinc 5 (-1), 3) := by decide +kernel
theorem dX9_takeEnvelope_101 : decode cX9_takeEnvelope 101 = .ok (.goto (-69), 3) := by decide +kernel
theorem dX9_takeEnvelope_104 : decode cX9_takeEnvelope 104 = .ok (.iinc 4 (-1), 3) := by decide +kernel
theorem dX9_takeEnvelope_107 : decode cX9_takeEnvelope 107 = .ok (.goto (-84), 3) := by decide +kernel
theorem dX9_takeEnvelope_110 : decode cX9_takeEnvelope 110 = .ok (.aload_n 0, 1) := by decide +kernel
theorem dX9_takeEnvelope_111 : decode cX9_takeEnvelope 111 = .ok (.iload_n 2, 1) := by decide +kernel
theorem dX9_takeEnvelope_112 : decode cX9_takeEnvelope 112 = .ok (.iload_n 3, 1) := by decide +kernel
theorem dX9_takeEnvelope_113 : decode cX9_takeEnvelope 113 = .ok (.invokevirtual 88, 3) := by decide +kernel
theorem dX9_takeEnvelope_116 : decode cX9_takeEnvelope 116 = .ok (.return_, 1) := by decide +kernel
theorem dX9_weightOf_0 : decode cX9_weightOf 0 = .ok (.aload_n 0, 1) := by decide +kernel
theorem dX9_weightOf_1 : decode cX9_weightOf 1 = .ok (.getfield 91, 3) := by decide +kernel
theorem dX9_weightOf_4 : decode cX9_weightOf 4 = .ok (.aload_n 0, 1) := by decide +kernel
theorem dX9_weightOf_5 : decode cX9_weightOf 5 = .ok (.getfield 94, 3) := by decide +kernel
theorem dX9_weightOf_8 : decode cX9_weightOf 8 = .ok (.if_icmp .ne 13, 3) := by decide +kernel
theorem dX9_weightOf_11 : decode cX9_weightOf 11 = .ok (.iload_n 2, 1) := by decide +kernel
theorem dX9_weightOf_12 : decode cX9_weightOf 12 = .ok (.ifCond .eq 7, 3) := by decide +kernel
theorem dX9_weightOf_15 : decode cX9_weightOf 15 = .ok (.iconst 1, 1) := by decide +kernel
theorem dX9_weightOf_16 : decode cX9_weightOf 16 = .ok (.goto 4, 3) := by decide +kernel
theorem dX9_weightOf_19 : decode cX9_weightOf 19 = .ok (.iconst 0, 1) := by decide +kernel
theorem dX9_weightOf_20 : decode cX9_weightOf 20 = .ok (.ireturn, 1) := by decide +kernel
theorem dX9_weightOf_21 : decode cX9_weightOf 21 = .ok (.aload_n 0, 1) := by decide +kernel
theorem dX9_weightOf_22 : decode cX9_weightOf 22 = .ok (.getfield 94, 3) := by decide +kernel
theorem dX9_weightOf_25 : decode cX9_weightOf 25 = .ok (.iload_n 1, 1) := by decide +kernel
theorem dX9_weightOf_26 : decode cX9_weightOf 26 = .ok (.isub, 1) := by decide +kernel
theorem dX9_weightOf_27 : decode cX9_weightOf 27 = .ok (.iload_n 1, 1) := by decide +kernel
theorem dX9_weightOf_28 : decode cX9_weightOf 28 = .ok (.aload_n 0, 1) := by decide +kernel
theorem dX9_weightOf_29 : decode cX9_weightOf 29 = .ok (.getfield 91, 3) := by decide +kernel
theorem dX9_weightOf_32 : decode cX9_weightOf 32 = .ok (.isub, 1) := by decide +kernel
theorem dX9_weightOf_33 : decode cX9_weightOf 33 = .ok (.invokestatic 43, 3) := by decide +kernel
theorem dX9_weightOf_36 : decode cX9_weightOf 36 = .ok (.istore_n 3, 1) := by decide +kernel
theorem dX9_weightOf_37 : decode cX9_weightOf 37 = .ok (.iload_n 2, 1) := by decide +kernel
theorem dX9_weightOf_38 : decode cX9_weightOf 38 = .ok (.ifCond .eq 12, 3) := by decide +kernel
theorem dX9_weightOf_41 : decode cX9_weightOf 41 = .ok (.aload_n 0, 1) := by decide +kernel
theorem dX9_weightOf_42 : decode cX9_weightOf 42 = .ok (.getfield 94, 3) := by decide +kernel
theorem dX9_weightOf_45 : decode cX9_weightOf 45 = .ok (.iload_n 1, 1) := by decide +kernel
theorem dX9_weightOf_46 : decode cX9_weightOf 46 = .ok (.isub, 1) := by decide +kernel
theorem dX9_weightOf_47 : decode cX9_weightOf 47 = .ok (.goto 9, 3) := by decide +kernel
theorem dX9_weightOf_50 : decode cX9_weightOf 50 = .ok (.iload_n 1, 1) := by decide +kernel
theorem dX9_weightOf_51 : decode cX9_weightOf 51 = .ok (.aload_n 0, 1) := by decide +kernel
theorem dX9_weightOf_52 : decode cX9_weightOf 52 = .ok (.getfield 91, 3) := by decide +kernel
theorem dX9_weightOf_55 : decode cX9_weightOf 55 = .ok (.isub, 1) := by decide +kernel
theorem dX9_weightOf_56 : decode cX9_weightOf 56 = .ok (.iload_n 3, 1) := by decide +kernel
theorem dX9_weightOf_57 : decode cX9_weightOf 57 = .ok (.idiv, 1) := by decide +kernel
theorem dX9_weightOf_58 : decode cX9_weightOf 58 = .ok (.ireturn, 1) := by decide +kernel
theorem dX9_priors_0 : decode cX9_priors 0 = .ok (.aload_n 0, 1) := by decide +kernel
theorem dX9_priors_1 : decode cX9_priors 1 = .ok (.iload_n 1, 1) := by decide +kernel
theorem dX9_priors_2 : decode cX9_priors 2 = .ok (.invokevirtual 31, 3) := by decide +kernel
theorem dX9_priors_5 : decode cX9_priors 5 = .ok (.return_, 1) := by decide +kernel
theorem dX9_prior_0 : decode cX9_prior 0 = .ok (.iload_n 1, 1) := by decide +kernel
theorem dX9_prior_1 : decode cX9_prior 1 = .ok (.iconst 1, 1) := by decide +kernel
theorem dX9_prior_2 : decode cX9_prior 2 = .ok (.bipush 99, 2) := by decide +kernel
theorem dX9_prior_4 : decode cX9_prior 4 = .ok (.invokestatic 53, 3) := by decide +kernel
theorem dX9_prior_7 : decode cX9_prior 7 = .ok (.ifCond .ne 6, 3) := by decide +kernel
theorem dX9_prior_10 : decode cX9_prior 10 = .ok (.bipush (-2), 2) := by decide +kernel
theorem dX9_prior_12 : decode cX9_prior 12 = .ok (.ireturn, 1) := by decide +kernel
theorem dX9_prior_13 : decode cX9_prior 13 = .ok (.aload_n 0, 1) := by decide +kernel
theorem dX9_prior_14 : decode cX9_prior 14 = .ok (.invokevirtual 97, 3) := by decide +kernel
theorem dX9_prior_17 : decode cX9_prior 17 = .ok (.aload_n 0, 1) := by decide +kernel
theorem dX9_prior_18 : decode cX9_prior 18 = .ok (.getfield 7, 3) := by decide +kernel
theorem dX9_prior_21 : decode cX9_prior 21 = .ok (.iconst 0, 1) := by decide +kernel
theorem dX9_prior_22 : decode cX9_prior 22 = .ok (.iaload, 1) := by decide +kernel
theorem dX9_prior_23 : decode cX9_prior 23 = .ok (.istore_n 2, 1) := by decide +kernel
theorem dX9_prior_24 : decode cX9_prior 24 = .ok (.aload_n 0, 1) := by decide +kernel
theorem dX9_prior_25 : decode cX9_prior 25 = .ok (.iload_n 1, 1) := by decide +kernel
theorem dX9_prior_26 : decode cX9_prior 26 = .ok (.invokevirtual 100, 3) := by decide +kernel
theorem dX9_prior_29 : decode cX9_prior 29 = .ok (.iload_n 2, 1) := by decide +kernel
theorem dX9_prior_30 : decode cX9_prior 30 = .ok (.ireturn, 1) := by decide +kernel
theorem dX9_whyNotHired_0 : decode cX9_whyNotHired 0 = .ok (.iload_n 1, 1) := by decide +kernel
theorem dX9_whyNotHired_1 : decode cX9_whyNotHired 1 = .ok (.iconst 1, 1) := by decide +kernel
theorem dX9_whyNotHired_2 : decode cX9_whyNotHired 2 = .ok (.bipush 99, 2) := by decide +kernel
theorem dX9_whyNotHired_4 : decode cX9_whyNotHired 4 = .ok (.invokestatic 53, 3) := by decide +kernel
theorem dX9_whyNotHired_7 : decode cX9_whyNotHired 7 = .ok (.ifCond .eq 35, 3) := by decide +kernel
theorem dX9_whyNotHired_10 : decode cX9_whyNotHired 10 = .ok (.iload_n 2, 1) := by decide +kernel
theorem dX9_whyNotHired_11 : decode cX9_whyNotHired 11 = .ok (.iconst 1, 1) := by decide +kernel
theorem dX9_whyNotHired_12 : decode cX9_whyNotHired 12 = .ok (.bipush 99, 2) := by decide +kernel
theorem dX9_whyNotHired_14 : decode cX9_whyNotHired 14 = .ok (.invokestatic 53, 3) := by decide +kernel
theorem dX9_whyNotHired_17 : decode cX9_whyNotHired 17 = .ok (.ifCond .eq 25, 3) := by decide +kernel
theorem dX9_whyNotHired_20 : decode cX9_whyNotHired 20 = .ok (.iload_n 3, 1) := by decide +kernel
theorem dX9_whyNotHired_21 : decode cX9_whyNotHired 21 = .ok (.iconst 0, 1) := by decide +kernel
theorem dX9_whyNotHired_22 : decode cX9_whyNotHired 22 = .ok (.bipush 99, 2) := by decide +kernel
theorem dX9_whyNotHired_24 : decode cX9_whyNotHired 24 = .ok (.invokestatic 53, 3) := by decide +kernel
theorem dX9_whyNotHired_27 : decode cX9_whyNotHired 27 = .ok (.ifCond .eq 15, 3) := by decide +kernel
theorem dX9_whyNotHired_30 : decode cX9_whyNotHired 30 = .ok (.iload 4, 2) := by decide +kernel
theorem dX9_whyNotHired_32 : decode cX9_whyNotHired 32 = .ok (.bipush (-99), 2) := by decide +kernel
theorem dX9_whyNotHired_34 : decode cX9_whyNotHired 34 = .ok (.bipush 99, 2) := by decide +kernel
theorem dX9_whyNotHired_36 : decode cX9_whyNotHired 36 = .ok (.invokestatic 53, 3) := by decide +kernel
theorem dX9_whyNotHired_39 : decode cX9_whyNotHired 39 = .ok (.ifCond .ne 6, 3) := by decide +kernel
theorem dX9_whyNotHired_42 : decode cX9_whyNotHired 42 = .ok (.bipush (-2), 2) := by decide +kernel
theorem dX9_whyNotHired_44 : decode cX9_whyNotHired 44 = .ok (.ireturn, 1) := by decide +kernel
theorem dX9_whyNotHired_45 : decode cX9_whyNotHired 45 = .ok (.aload_n 0, 1) := by decide +kernel
theorem dX9_whyNotHired_46 : decode cX9_whyNotHired 46 = .ok (.getfield 7, 3) := by decide +kernel
theorem dX9_whyNotHired_49 : decode cX9_whyNotHired 49 = .ok (.iconst 1, 1) := by decide +kernel
theorem dX9_whyNotHired_50 : decode cX9_whyNotHired 50 = .ok (.iaload, 1) := by decide +kernel
theorem dX9_whyNotHired_51 : decode cX9_whyNotHired 51 = .ok (.iconst 5, 1) := by decide +kernel
theorem dX9_whyNotHired_52 : decode cX9_whyNotHired 52 = .ok (.if_icmp .ne 8, 3) := by decide +kernel
theorem dX9_whyNotHired_55 : decode cX9_whyNotHired 55 = .ok (.bipush (-4), 2) := by decide +kernel
theorem dX9_whyNotHired_57 : decode cX9_whyNotHired 57 = .ok (.goto 4, 3) := by decide +kernel
theorem dX9_whyNotHired_60 : decode cX9_whyNotHired 60 = .ok (.iconst 0, 1) := by decide +kernel
theorem dX9_whyNotHired_61 : decode cX9_whyNotHired 61 = .ok (.ireturn, 1) := by decide +kernel
theorem dX9_hires_0 : decode cX9_hires 0 = .ok (.iconst 3, 1) := by decide +kernel
theorem dX9_hires_1 : decode cX9_hires 1 = .ok (.iconst 4, 1) := by decide +kernel
theorem dX9_hires_2 : decode cX9_hires 2 = .ok (.aload_n 0, 1) := by decide +kernel
theorem dX9_hires_3 : decode cX9_hires 3 = .ok (.getfield 7, 3) := by decide +kernel
theorem dX9_hires_6 : decode cX9_hires 6 = .ok (.iconst 1, 1) := by decide +kernel
theorem dX9_hires_7 : decode cX9_hires 7 = .ok (.iaload, 1) := by decide +kernel
theorem dX9_hires_8 : decode cX9_hires 8 = .ok (.imul, 1) := by decide +kernel
theorem dX9_hires_9 : decode cX9_hires 9 = .ok (.iadd, 1) := by decide +kernel
theorem dX9_hires_10 : decode cX9_hires 10 = .ok (.istore 5, 2) := by decide +kernel
theorem dX9_hires_12 : decode cX9_hires 12 = .ok (.aload_n 0, 1) := by decide +kernel
theorem dX9_hires_13 : decode cX9_hires 13 = .ok (.getfield 7, 3) := by decide +kernel
theorem dX9_hires_16 : decode cX9_hires 16 = .ok (.iload 5, 2) := by decide +kernel
theorem dX9_hires_18 : decode cX9_hires 18 = .ok (.iconst 0, 1) := by decide +kernel
theorem dX9_hires_19 : decode cX9_hires 19 = .ok (.iadd, 1) := by decide +kernel
theorem dX9_hires_20 : decode cX9_hires 20 = .ok (.iload_n 1, 1) := by decide +kernel
theorem dX9_hires_21 : decode cX9_hires 21 = .ok (.iastore, 1) := by decide +kernel
theorem dX9_hires_22 : decode cX9_hires 22 = .ok (.aload_n 0, 1) := by decide +kernel
theorem dX9_hires_23 : decode cX9_hires 23 = .ok (.getfield 7, 3) := by decide +kernel
theorem dX9_hires_26 : decode cX9_hires 26 = .ok (.iload 5, 2) := by decide +kernel
theorem dX9_hires_28 : decode cX9_hires 28 = .ok (.iconst 1, 1) := by decide +kernel
theorem dX9_hires_29 : decode cX9_hires 29 = .ok (.iadd, 1) := by decide +kernel
theorem dX9_hires_30 : decode cX9_hires 30 = .ok (.iload_n 2, 1) := by decide +kernel
theorem dX9_hires_31 : decode cX9_hires 31 = .ok (.iastore, 1) := by decide +kernel
theorem dX9_hires_32 : decode cX9_hires 32 = .ok (.aload_n 0, 1) := by decide +kernel
theorem dX9_hires_33 : decode cX9_hires 33 = .ok (.getfield 7, 3) := by decide +kernel
theorem dX9_hires_36 : decode cX9_hires 36 = .ok (.iload 5, 2) := by decide +kernel
theorem dX9_hires_38 : decode cX9_hires 38 = .ok (.iconst 2, 1) := by decide +kernel
theorem dX9_hires_39 : decode cX9_hires 39 = .ok (.iadd, 1) := by decide +kernel
theorem dX9_hires_40 : decode cX9_hires 40 = .ok (.iload_n 3, 1) := by decide +kernel
theorem dX9_hires_41 : decode cX9_hires 41 = .ok (.iastore, 1) := by decide +kernel
theorem dX9_hires_42 : decode cX9_hires 42 = .ok (.aload_n 0, 1) := by decide +kernel
theorem dX9_hires_43 : decode cX9_hires 43 = .ok (.getfield 7, 3) := by decide +kernel
theorem dX9_hires_46 : decode cX9_hires 46 = .ok (.iload 5, 2) := by decide +kernel
theorem dX9_hires_48 : decode cX9_hires 48 = .ok (.iconst 3, 1) := by decide +kernel
theorem dX9_hires_49 : decode cX9_hires 49 = .ok (.iadd, 1) := by decide +kernel
theorem dX9_hires_50 : decode cX9_hires 50 = .ok (.iload 4, 2) := by decide +kernel
theorem dX9_hires_52 : decode cX9_hires 52 = .ok (.iastore, 1) := by decide +kernel
theorem dX9_hires_53 : decode cX9_hires 53 = .ok (.aload_n 0, 1) := by decide +kernel
theorem dX9_hires_54 : decode cX9_hires 54 = .ok (.getfield 7, 3) := by decide +kernel
theorem dX9_hires_57 : decode cX9_hires 57 = .ok (.iconst 1, 1) := by decide +kernel
theorem dX9_hires_58 : decode cX9_hires 58 = .ok (.dup2, 1) := by decide +kernel
theorem dX9_hires_59 : decode cX9_hires 59 = .ok (.iaload, 1) := by decide +kernel
theorem dX9_hires_60 : decode cX9_hires 60 = .ok (.iconst 1, 1) := by decide +kernel
theorem dX9_hires_61 : decode cX9_hires 61 = .ok (.iadd, 1) := by decide +kernel
theorem dX9_hires_62 : decode cX9_hires 62 = .ok (.iastore, 1) := by decide +kernel
theorem dX9_hires_63 : decode cX9_hires 63 = .ok (.aload_n 0, 1) := by decide +kernel
theorem dX9_hires_64 : decode cX9_hires 64 = .ok (.getfield 7, 3) := by decide +kernel
theorem dX9_hires_67 : decode cX9_hires 67 = .ok (.iconst 1, 1) := by decide +kernel
theorem dX9_hires_68 : decode cX9_hires 68 = .ok (.iaload, 1) := by decide +kernel
theorem dX9_hires_69 : decode cX9_hires 69 = .ok (.iconst 1, 1) := by decide +kernel
theorem dX9_hires_70 : decode cX9_hires 70 = .ok (.isub, 1) := by decide +kernel
theorem dX9_hires_71 : decode cX9_hires 71 = .ok (.ireturn, 1) := by decide +kernel
theorem dX9_hire_0 : decode cX9_hire 0 = .ok (.aload_n 0, 1) := by decide +kernel
theorem dX9_hire_1 : decode cX9_hire 1 = .ok (.iload_n 1, 1) := by decide +kernel
theorem dX9_hire_2 : decode cX9_hire 2 = .ok (.iload_n 2, 1) := by decide +kernel
theorem dX9_hire_3 : decode cX9_hire 3 = .ok (.iload_n 3, 1) := by decide +kernel
theorem dX9_hire_4 : decode cX9_hire 4 = .ok (.iload 4, 2) := by decide +kernel
theorem dX9_hire_6 : decode cX9_hire 6 = .ok (.invokevirtual 103, 3) := by decide +kernel
theorem dX9_hire_9 : decode cX9_hire 9 = .ok (.istore 5, 2) := by decide +kernel
theorem dX9_hire_11 : decode cX9_hire 11 = .ok (.iload 5, 2) := by decide +kernel
theorem dX9_hire_13 : decode cX9_hire 13 = .ok (.ifCond .ge 6, 3) := by decide +kernel
theorem dX9_hire_16 : decode cX9_hire 16 = .ok (.iload 5, 2) := by decide +kernel
theorem dX9_hire_18 : decode cX9_hire 18 = .ok (.ireturn, 1) := by decide +kernel
theorem dX9_hire_19 : decode cX9_hire 19 = .ok (.aload_n 0, 1) := by decide +kernel
theorem dX9_hire_20 : decode cX9_hire 20 = .ok (.invokevirtual 97, 3) := by decide +kernel
theorem dX9_hire_23 : decode cX9_hire 23 = .ok (.aload_n 0, 1) := by decide +kernel
theorem dX9_hire_24 : decode cX9_hire 24 = .ok (.iload_n 1, 1) := by decide +kernel
theorem dX9_hire_25 : decode cX9_hire 25 = .ok (.iload_n 2, 1) := by decide +kernel
theorem dX9_hire_26 : decode cX9_hire 26 = .ok (.iload_n 3, 1) := by decide +kernel
theorem dX9_hire_27 : decode cX9_hire 27 = .ok (.iload 4, 2) := by decide +kernel
theorem dX9_hire_29 : decode cX9_hire 29 = .ok (.invokevirtual 107, 3) := by decide +kernel
theorem dX9_hire_32 : decode cX9_hire 32 = .ok (.ireturn, 1) := by decide +kernel
theorem dX9_dismisses_0 : decode cX9_dismisses 0 = .ok (.iconst 3, 1) := by decide +kernel
theorem dX9_dismisses_1 : decode cX9_dismisses 1 = .ok (.iconst 4, 1) := by decide +kernel
theorem dX9_dismisses_2 : decode cX9_dismisses 2 = .ok (.iload_n 1, 1) := by decide +kernel
theorem dX9_dismisses_3 : decode cX9_dismisses 3 = .ok (.imul, 1) := by decide +kernel
theorem dX9_dismisses_4 : decode cX9_dismisses 4 = .ok (.iadd, 1) := by decide +kernel
theorem dX9_dismisses_5 : decode cX9_dismisses 5 = .ok (.istore_n 2, 1) := by decide +kernel
theorem dX9_dismisses_6 : decode cX9_dismisses 6 = .ok (.iload_n 2, 1) := by decide +kernel
theorem dX9_dismisses_7 : decode cX9_dismisses 7 = .ok (.iconst 3, 1) := by decide +kernel
theorem dX9_dismisses_8 : decode cX9_dismisses 8 = .ok (.iconst 4, 1) := by decide +kernel
theorem dX9_dismisses_9 : decode cX9_dismisses 9 = .ok (.aload_n 0, 1) := by decide +kernel
theorem dX9_dismisses_10 : decode cX9_dismisses 10 = .ok (.getfield 7, 3) := by decide +kernel
theorem dX9_dismisses_13 : decode cX9_dismisses 13 = .ok (.iconst 1, 1) := by decide +kernel
theorem dX9_dismisses_14 : decode cX9_dismisses 14 = .ok (.iaload, 1) := by decide +kernel
theorem dX9_dismisses_15 : decode cX9_dismisses 15 = .ok (.iconst 1, 1) := by decide +kernel
theorem dX9_dismisses_16 : decode cX9_dismisses 16 = .ok (.isub, 1) := by decide +kernel
theorem dX9_dismisses_17 : decode cX9_dismisses 17 = .ok (.imul, 1) := by decide +kernel
theorem dX9_dismisses_18 : decode cX9_dismisses 18 = .ok (.iadd, 1) := by decide +kernel
theorem dX9_dismisses_19 : decode cX9_dismisses 19 = .ok (.if_icmp .ge 23, 3) := by decide +kernel
theorem dX9_dismisses_22 : decode cX9_dismisses 22 = .ok (.aload_n 0, 1) := by decide +kernel
theorem dX9_dismisses_23 : decode cX9_dismisses 23 = .ok (.getfield 7, 3) := by decide +kernel
theorem dX9_dismisses_26 : decode cX9_dismisses 26 = .ok (.iload_n 2, 1) := by decide +kernel
theorem dX9_dismisses_27 : decode cX9_dismisses 27 = .ok (.aload_n 0, 1) := by decide +kernel
theorem dX9_dismisses_28 : decode cX9_dismisses 28 = .ok (.getfield 7, 3) := by decide +kernel
theorem dX9_dismisses_31 : decode cX9_dismisses 31 = .ok (.iload_n 2, 1) := by decide +kernel
theorem dX9_dismisses_32 : decode cX9_dismisses 32 = .ok (.iconst 4, 1) := by decide +kernel
theorem dX9_dismisses_33 : decode cX9_dismisses 33 = .ok (.iadd, 1) := by decide +kernel
theorem dX9_dismisses_34 : decode cX9_dismisses 34 = .ok (.iaload, 1) := by decide +kernel
theorem dX9_dismisses_35 : decode cX9_dismisses 35 = .ok (.iastore, 1) := by decide +kernel
theorem dX9_dismisses_36 : decode cX9_dismisses 36 = .ok (.iinc 2 1, 3) := by decide +kernel
theorem dX9_dismisses_39 : decode cX9_dismisses 39 = .ok (.goto (-33), 3) := by decide +kernel
theorem dX9_dismisses_42 : decode cX9_dismisses 42 = .ok (.aload_n 0, 1) := by decide +kernel
theorem dX9_dismisses_43 : decode cX9_dismisses 43 = .ok (.getfield 7, 3) := by decide +kernel
theorem dX9_dismisses_46 : decode cX9_dismisses 46 = .ok (.iconst 1, 1) := by decide +kernel
theorem dX9_dismisses_47 : decode cX9_dismisses 47 = .ok (.dup2, 1) := by decide +kernel
theorem dX9_dismisses_48 : decode cX9_dismisses 48 = .ok (.iaload, 1) := by decide +kernel
theorem dX9_dismisses_49 : decode cX9_dismisses 49 = .ok (.iconst 1, 1) := by decide +kernel
theorem dX9_dismisses_50 : decode cX9_dismisses 50 = .ok (.isub, 1) := by decide +kernel
theorem dX9_dismisses_51 : decode cX9_dismisses 51 = .ok (.iastore, 1) := by decide +kernel
theorem dX9_dismisses_52 : decode cX9_dismisses 52 = .ok (.aload_n 0, 1) := by decide +kernel
theorem dX9_dismisses_53 : decode cX9_dismisses 53 = .ok (.getfield 7, 3) := by decide +kernel
theorem dX9_dismisses_56 : decode cX9_dismisses 56 = .ok (.iconst 1, 1) := by decide +kernel
theorem dX9_dismisses_57 : decode cX9_dismisses 57 = .ok (.iaload, 1) := by decide +kernel
theorem dX9_dismisses_58 : decode cX9_dismisses 58 = .ok (.ireturn, 1) := by decide +kernel
theorem dX9_dismiss_0 : decode cX9_dismiss 0 = .ok (.aload_n 0, 1) := by decide +kernel
theorem dX9_dismiss_1 : decode cX9_dismiss 1 = .ok (.iload_n 1, 1) := by decide +kernel
theorem dX9_dismiss_2 : decode cX9_dismiss 2 = .ok (.invokevirtual 110, 3) := by decide +kernel
theorem dX9_dismiss_5 : decode cX9_dismiss 5 = .ok (.ifCond .ne 5, 3) := by decide +kernel
theorem dX9_dismiss_8 : decode cX9_dismiss 8 = .ok (.iconst (-1), 1) := by decide +kernel
theorem dX9_dismiss_9 : decode cX9_dismiss 9 = .ok (.ireturn, 1) := by decide +kernel
theorem dX9_dismiss_10 : decode cX9_dismiss 10 = .ok (.aload_n 0, 1) := by decide +kernel
theorem dX9_dismiss_11 : decode cX9_dismiss 11 = .ok (.invokevirtual 97, 3) := by decide +kernel
theorem dX9_dismiss_14 : decode cX9_dismiss 14 = .ok (.aload_n 0, 1) := by decide +kernel
theorem dX9_dismiss_15 : decode cX9_dismiss 15 = .ok (.iload_n 1, 1) := by decide +kernel
theorem dX9_dismiss_16 : decode cX9_dismiss 16 = .ok (.invokevirtual 114, 3) := by decide +kernel
theorem dX9_dismiss_19 : decode cX9_dismiss 19 = .ok (.ireturn, 1) := by decide +kernel
theorem dX9_refine_0 : decode cX9_refine 0 = .ok (.aload_n 0, 1) := by decide +kernel
theorem dX9_refine_1 : decode cX9_refine 1 = .ok (.iload_n 1, 1) := by decide +kernel
theorem dX9_refine_2 : decode cX9_refine 2 = .ok (.invokevirtual 117, 3) := by decide +kernel
theorem dX9_refine_5 : decode cX9_refine 5 = .ok (.ifCond .ne 5, 3) := by decide +kernel
theorem dX9_refine_8 : decode cX9_refine 8 = .ok (.iconst (-1), 1) := by decide +kernel
theorem dX9_refine_9 : decode cX9_refine 9 = .ok (.ireturn, 1) := by decide +kernel
theorem dX9_refine_10 : decode cX9_refine 10 = .ok (.aload_n 0, 1) := by decide +kernel
theorem dX9_refine_11 : decode cX9_refine 11 = .ok (.getfield 7, 3) := by decide +kernel
theorem dX9_refine_14 : decode cX9_refine 14 = .ok (.bipush 29, 2) := by decide +kernel
theorem dX9_refine_16 : decode cX9_refine 16 = .ok (.iload_n 1, 1) := by decide +kernel
theorem dX9_refine_17 : decode cX9_refine 17 = .ok (.iadd, 1) := by decide +kernel
theorem dX9_refine_18 : decode cX9_refine 18 = .ok (.iaload, 1) := by decide +kernel
theorem dX9_refine_19 : decode cX9_refine 19 = .ok (.istore 4, 2) := by decide +kernel
theorem dX9_refine_21 : decode cX9_refine 21 = .ok (.iload_n 2, 1) := by decide +kernel
theorem dX9_refine_22 : decode cX9_refine 22 = .ok (.iconst 0, 1) := by decide +kernel
theorem dX9_refine_23 : decode cX9_refine 23 = .ok (.iload 4, 2) := by decide +kernel
theorem dX9_refine_25 : decode cX9_refine 25 = .ok (.invokestatic 53, 3) := by decide +kernel
theorem dX9_refine_28 : decode cX9_refine 28 = .ok (.ifCond .eq 14, 3) := by decide +kernel
theorem dX9_refine_31 : decode cX9_refine 31 = .ok (.iload_n 3, 1) := by decide +kernel
theorem dX9_refine_32 : decode cX9_refine 32 = .ok (.iload 4, 2) := by decide +kernel
theorem dX9_refine_34 : decode cX9_refine 34 = .ok (.bipush 100, 2) := by decide +kernel
theorem dX9_refine_36 : decode cX9_refine 36 = .ok (.invokestatic 53, 3) := by decide +kernel
theorem dX9_refine_39 : decode cX9_refine 39 = .ok (.ifCond .ne 6, 3) := by decide +kernel
theorem dX9_refine_42 : decode cX9_refine 42 = .ok (.bipush (-2), 2) := by decide +kernel
theorem dX9_refine_44 : decode cX9_refine 44 = .ok (.ireturn, 1) := by decide +kernel
theorem dX9_refine_45 : decode cX9_refine 45 = .ok (.iload_n 3, 1) := by decide +kernel
theorem dX9_refine_46 : decode cX9_refine 46 = .ok (.iload_n 2, 1) := by decide +kernel
theorem dX9_refine_47 : decode cX9_refine 47 = .ok (.if_icmp .ne 7, 3) := by decide +kernel
theorem dX9_refine_50 : decode cX9_refine 50 = .ok (.iconst 1, 1) := by decide +kernel
theorem dX9_refine_51 : decode cX9_refine 51 = .ok (.goto 6, 3) := by decide +kernel
theorem dX9_refine_54 : decode cX9_refine 54 = .ok (.iload_n 3, 1) := by decide +kernel
theorem dX9_refine_55 : decode cX9_refine 55 = .ok (.iload_n 2, 1) := by decide +kernel
theorem dX9_refine_56 : decode cX9_refine 56 = .ok (.isub, 1) := by decide +kernel
theorem dX9_refine_57 : decode cX9_refine 57 = .ok (.istore 5, 2) := by decide +kernel
theorem dX9_refine_59 : decode cX9_refine 59 = .ok (.aload_n 0, 1) := by decide +kernel
theorem dX9_refine_60 : decode cX9_refine 60 = .ok (.iconst 0, 1) := by decide +kernel
theorem dX9_refine_61 : decode cX9_refine 61 = .ok (.putfield 72, 3) := by decide +kernel
theorem dX9_refine_64 : decode cX9_refine 64 = .ok (.iconst 0, 1) := by decide +kernel
theorem dX9_refine_65 : decode cX9_refine 65 = .ok (.istore 6, 2) := by decide +kernel
theorem dX9_refine_67 : decode cX9_refine 67 = .ok (.iload 6, 2) := by decide +kernel
theorem dX9_refine_69 : decode cX9_refine 69 = .ok (.aload_n 0, 1) := by decide +kernel
theorem dX9_refine_70 : decode cX9_refine 70 = .ok (.getfield 7, 3) := by decide +kernel
theorem dX9_refine_73 : decode cX9_refine 73 = .ok (.iconst 2, 1) := by decide +kernel
theorem dX9_refine_74 : decode cX9_refine 74 = .ok (.iaload, 1) := by decide +kernel
theorem dX9_refine_75 : decode cX9_refine 75 = .ok (.if_icmp .ge 89, 3) := by decide +kernel
theorem dX9_refine_78 : decode cX9_refine 78 = .ok (.aload_n 0, 1) := by decide +kernel
theorem dX9_refine_79 : decode cX9_refine 79 = .ok (.getfield 7, 3) := by decide +kernel
theorem dX9_refine_82 : decode cX9_refine 82 = .ok (.bipush 23, 2) := by decide +kernel
theorem dX9_refine_84 : decode cX9_refine 84 = .ok (.iload 6, 2) := by decide +kernel
theorem dX9_refine_86 : decode cX9_refine 86 = .ok (.iadd, 1) := by decide +kernel
theorem dX9_refine_87 : decode cX9_refine 87 = .ok (.iaload, 1) := by decide +kernel
theorem dX9_refine_88 : decode cX9_refine 88 = .ok (.istore 7, 2) := by decide +kernel
theorem dX9_refine_90 : decode cX9_refine 90 = .ok (.iload 6, 2) := by decide +kernel
theorem dX9_refine_92 : decode cX9_refine 92 = .ok (.iload_n 1, 1) := by decide +kernel
theorem dX9_refine_93 : decode cX9_refine 93 = .ok (.if_icmp .eq 25, 3) := by decide +kernel
theorem dX9_refine_96 : decode cX9_refine 96 = .ok (.aload_n 0, 1) := by decide +kernel
theorem dX9_refine_97 : decode cX9_refine 97 = .ok (.iload 7, 2) := by decide +kernel
theorem dX9_refine_99 : decode cX9_refine 99 = .ok (.iload 5, 2) := by decide +kernel
theorem dX9_refine_101 : decode cX9_refine 101 = .ok (.imul, 1) := by decide +kernel
theorem dX9_refine_102 : decode cX9_refine 102 = .ok (.aload_n 0, 1) := by decide +kernel
theorem dX9_refine_103 : decode cX9_refine 103 = .ok (.getfield 7, 3) := by decide +kernel
theorem dX9_refine_106 : decode cX9_refine 106 = .ok (.bipush 29, 2) := by decide +kernel
theorem dX9_refine_108 : decode cX9_refine 108 = .ok (.iload 6, 2) := by decide +kernel
theorem dX9_refine_110 : decode cX9_refine 110 = .ok (.iadd, 1) := by decide +kernel
theorem dX9_refine_111 : decode cX9_refine 111 = .ok (.iaload, 1) := by decide +kernel
theorem dX9_refine_112 : decode cX9_refine 112 = .ok (.invokevirtual 75, 3) := by decide +kernel
theorem dX9_refine_115 : decode cX9_refine 115 = .ok (.goto 43, 3) := by decide +kernel
theorem dX9_refine_118 : decode cX9_refine 118 = .ok (.iload_n 3, 1) := by decide +kernel
theorem dX9_refine_119 : decode cX9_refine 119 = .ok (.iload_n 2, 1) := by decide +kernel
theorem dX9_refine_120 : decode cX9_refine 120 = .ok (.if_icmp .ne 14, 3) := by decide +kernel
theorem dX9_refine_123 : decode cX9_refine 123 = .ok (.aload_n 0, 1) := by decide +kernel
theorem dX9_refine_124 : decode cX9_refine 124 = .ok (.iload 7, 2) := by decide +kernel
theorem dX9_refine_126 : decode cX9_refine 126 = .ok (.iload 4, 2) := by decide +kernel
theorem dX9_refine_128 : decode cX9_refine 128 = .ok (.invokevirtual 75, 3) := by decide +kernel
theorem dX9_refine_131 : decode cX9_refine 131 = .ok (.goto 27, 3) := by decide +kernel
theorem dX9_refine_134 : decode cX9_refine 134 = .ok (.aload_n 0, 1) := by decide +kernel
theorem dX9_refine_135 : decode cX9_refine 135 = .ok (.iload 7, 2) := by decide +kernel
theorem dX9_refine_137 : decode cX9_refine 137 = .ok (.iload_n 3, 1) := by decide +kernel
theorem dX9_refine_138 : decode cX9_refine 138 = .ok (.iload 4, 2) := by decide +kernel
theorem dX9_refine_140 : decode cX9_refine 140 = .ok (.isub, 1) := by decide +kernel
theorem dX9_refine_141 : decode cX9_refine 141 = .ok (.imul, 1) := by decide +kernel
theorem dX9_refine_142 : decode cX9_refine 142 = .ok (.iload_n 2, 1) := by decide +kernel
theorem dX9_refine_143 : decode cX9_refine 143 = .ok (.invokevirtual 75, 3) := by decide +kernel
theorem dX9_refine_146 : decode cX9_refine 146 = .ok (.aload_n 0, 1) := by decide +kernel
theorem dX9_refine_147 : decode cX9_refine 147 = .ok (.iload 7, 2) := by decide +kernel
theorem dX9_refine_149 : decode cX9_refine 149 = .ok (.iload 4, 2) := by decide +kernel
theorem dX9_refine_151 : decode cX9_refine 151 = .ok (.iload_n 2, 1) := by decide +kernel
theorem dX9_refine_152 : decode cX9_refine 152 = .ok (.isub, 1) := by decide +kernel
theorem dX9_refine_153 : decode cX9_refine 153 = .ok (.imul, 1) := by decide +kernel
theorem dX9_refine_154 : decode cX9_refine 154 = .ok (.iload_n 3, 1) := by decide +kernel
theorem dX9_refine_155 : decode cX9_refine 155 = .ok (.invokevirtual 75, 3) := by decide +kernel
theorem dX9_refine_158 : decode cX9_refine 158 = .ok (.iinc 6 1, 3) := by decide +kernel
theorem dX9_refine_161 : decode cX9_refine 161 = .ok (.goto (-94), 3) := by decide +kernel
theorem dX9_refine_164 : decode cX9_refine 164 = .ok (.aload_n 0, 1) := by decide +kernel
theorem dX9_refine_165 : decode cX9_refine 165 = .ok (.invokevirtual 120, 3) := by decide +kernel
theorem dX9_refine_168 : decode cX9_refine 168 = .ok (.ifCond .ne 6, 3) := by decide +kernel
theorem dX9_refine_171 : decode cX9_refine 171 = .ok (.bipush (-4), 2) := by decide +kernel
theorem dX9_refine_173 : decode cX9_refine 173 = .ok (.ireturn, 1) := by decide +kernel
theorem dX9_refine_174 : decode cX9_refine 174 = .ok (.aload_n 0, 1) := by decide +kernel
theorem dX9_refine_175 : decode cX9_refine 175 = .ok (.invokevirtual 97, 3) := by decide +kernel
theorem dX9_refine_178 : decode cX9_refine 178 = .ok (.aload_n 0, 1) := by decide +kernel
theorem dX9_refine_179 : decode cX9_refine 179 = .ok (.invokevirtual 78, 3) := by decide +kernel
theorem dX9_refine_182 : decode cX9_refine 182 = .ok (.aload_n 0, 1) := by decide +kernel
theorem dX9_refine_183 : decode cX9_refine 183 = .ok (.getfield 72, 3) := by decide +kernel
theorem dX9_refine_186 : decode cX9_refine 186 = .ok (.ireturn, 1) := by decide +kernel
theorem dX9_join_0 : decode cX9_join 0 = .ok (.aload_n 0, 1) := by decide +kernel
theorem dX9_join_1 : decode cX9_join 1 = .ok (.iload_n 1, 1) := by decide +kernel
theorem dX9_join_2 : decode cX9_join 2 = .ok (.invokevirtual 117, 3) := by decide +kernel
theorem dX9_join_5 : decode cX9_join 5 = .ok (.ifCond .eq 13, 3) := by decide +kernel
theorem dX9_join_8 : decode cX9_join 8 = .ok (.aload_n 0, 1) := by decide +kernel
theorem dX9_join_9 : decode cX9_join 9 = .ok (.iload_n 1, 1) := by decide +kernel
theorem dX9_join_10 : decode cX9_join 10 = .ok (.iconst 1, 1) := by decide +kernel
theorem dX9_join_11 : decode cX9_join 11 = .ok (.iadd, 1) := by decide +kernel
theorem dX9_join_12 : decode cX9_join 12 = .ok (.invokevirtual 117, 3) := by decide +kernel
theorem dX9_join_15 : decode cX9_join 15 = .ok (.ifCond .ne 5, 3) := by decide +kernel
theorem dX9_join_18 : decode cX9_join 18 = .ok (.iconst (-1), 1) := by decide +kernel
theorem dX9_join_19 : decode cX9_join 19 = .ok (.ireturn, 1) := by decide +kernel
theorem dX9_join_20 : decode cX9_join 20 = .ok (.aload_n 0, 1) := by decide +kernel
theorem dX9_join_21 : decode cX9_join 21 = .ok (.getfield 7, 3) := by decide +kernel
theorem dX9_join_24 : decode cX9_join 24 = .ok (.bipush 23, 2) := by decide +kernel
theorem dX9_join_26 : decode cX9_join 26 = .ok (.iload_n 1, 1) := by decide +kernel
theorem dX9_join_27 : decode cX9_join 27 = .ok (.iadd, 1) := by decide +kernel
theorem dX9_join_28 : decode cX9_join 28 = .ok (.iaload, 1) := by decide +kernel
theorem dX9_join_29 : decode cX9_join 29 = .ok (.aload_n 0, 1) := by decide +kernel
theorem dX9_join_30 : decode cX9_join 30 = .ok (.getfield 7, 3) := by decide +kernel
theorem dX9_join_33 : decode cX9_join 33 = .ok (.bipush 23, 2) := by decide +kernel
theorem dX9_join_35 : decode cX9_join 35 = .ok (.iload_n 1, 1) := by decide +kernel
theorem dX9_join_36 : decode cX9_join 36 = .ok (.iadd, 1) := by decide +kernel
theorem dX9_join_37 : decode cX9_join 37 = .ok (.iconst 1, 1) := by decide +kernel
theorem dX9_join_38 : decode cX9_join 38 = .ok (.iadd, 1) := by decide +kernel
theorem dX9_join_39 : decode cX9_join 39 = .ok (.iaload, 1) := by decide +kernel
theorem dX9_join_40 : decode cX9_join 40 = .ok (.iadd, 1) := by decide +kernel
theorem dX9_join_41 : decode cX9_join 41 = .ok (.istore_n 2, 1) := by decide +kernel
theorem dX9_join_42 : decode cX9_join 42 = .ok (.aload_n 0, 1) := by decide +kernel
theorem dX9_join_43 : decode cX9_join 43 = .ok (.getfield 7, 3) := by decide +kernel
theorem dX9_join_46 : decode cX9_join 46 = .ok (.bipush 23, 2) := by decide +kernel
theorem dX9_join_48 : decode cX9_join 48 = .ok (.iload_n 1, 1) := by decide +kernel
theorem dX9_join_49 : decode cX9_join 49 = .ok (.iadd, 1) := by decide +kernel
theorem dX9_join_50 : decode cX9_join 50 = .ok (.iaload, 1) := by decide +kernel
theorem dX9_join_51 : decode cX9_join 51 = .ok (.aload_n 0, 1) := by decide +kernel
theorem dX9_join_52 : decode cX9_join 52 = .ok (.getfield 7, 3) := by decide +kernel
theorem dX9_join_55 : decode cX9_join 55 = .ok (.bipush 29, 2) := by decide +kernel
theorem dX9_join_57 : decode cX9_join 57 = .ok (.iload_n 1, 1) := by decide +kernel
theorem dX9_join_58 : decode cX9_join 58 = .ok (.iadd, 1) := by decide +kernel
theorem dX9_join_59 : decode cX9_join 59 = .ok (.iaload, 1) := by decide +kernel
theorem dX9_join_60 : decode cX9_join 60 = .ok (.imul, 1) := by decide +kernel
theorem dX9_join_61 : decode cX9_join 61 = .ok (.aload_n 0, 1) := by decide +kernel
theorem dX9_join_62 : decode cX9_join 62 = .ok (.getfield 7, 3) := by decide +kernel
theorem dX9_join_65 : decode cX9_join 65 = .ok (.bipush 23, 2) := by decide +kernel
theorem dX9_join_67 : decode cX9_join 67 = .ok (.iload_n 1, 1) := by decide +kernel
theorem dX9_join_68 : decode cX9_join 68 = .ok (.iadd, 1) := by decide +kernel
theorem dX9_join_69 : decode cX9_join 69 = .ok (.iconst 1, 1) := by decide +kernel
theorem dX9_join_70 : decode cX9_join 70 = .ok (.iadd, 1) := by decide +kernel
theorem dX9_join_71 : decode cX9_join 71 = .ok (.iaload, 1) := by decide +kernel
theorem dX9_join_72 : decode cX9_join 72 = .ok (.aload_n 0, 1) := by decide +kernel
theorem dX9_join_73 : decode cX9_join 73 = .ok (.getfield 7, 3) := by decide +kernel
theorem dX9_join_76 : decode cX9_join 76 = .ok (.bipush 29, 2) := by decide +kernel
theorem dX9_join_78 : decode cX9_join 78 = .ok (.iload_n 1, 1) := by decide +kernel
theorem dX9_join_79 : decode cX9_join 79 = .ok (.iadd, 1) := by decide +kernel
theorem dX9_join_80 : decode cX9_join 80 = .ok (.iconst 1, 1) := by decide +kernel
theorem dX9_join_81 : decode cX9_join 81 = .ok (.iadd, 1) := by decide +kernel
theorem dX9_join_82 : decode cX9_join 82 = .ok (.iaload, 1) := by decide +kernel
theorem dX9_join_83 : decode cX9_join 83 = .ok (.imul, 1) := by decide +kernel
theorem dX9_join_84 : decode cX9_join 84 = .ok (.iadd, 1) := by decide +kernel
theorem dX9_join_85 : decode cX9_join 85 = .ok (.istore_n 3, 1) := by decide +kernel
theorem dX9_join_86 : decode cX9_join 86 = .ok (.iload_n 3, 1) := by decide +kernel
theorem dX9_join_87 : decode cX9_join 87 = .ok (.iload_n 2, 1) := by decide +kernel
theorem dX9_join_88 : decode cX9_join 88 = .ok (.irem, 1) := by decide +kernel
theorem dX9_join_89 : decode cX9_join 89 = .ok (.ifCond .eq 6, 3) := by decide +kernel
theorem dX9_join_92 : decode cX9_join 92 = .ok (.bipush (-5), 2) := by decide +kernel
theorem dX9_join_94 : decode cX9_join 94 = .ok (.ireturn, 1) := by decide +kernel
theorem dX9_join_95 : decode cX9_join 95 = .ok (.aload_n 0, 1) := by decide +kernel
theorem dX9_join_96 : decode cX9_join 96 = .ok (.iconst 0, 1) := by decide +kernel
theorem dX9_join_97 : decode cX9_join 97 = .ok (.putfield 72, 3) := by decide +kernel
theorem dX9_join_100 : decode cX9_join 100 = .ok (.aload_n 0, 1) := by decide +kernel
theorem dX9_join_101 : decode cX9_join 101 = .ok (.iload_n 2, 1) := by decide +kernel
theorem dX9_join_102 : decode cX9_join 102 = .ok (.iload_n 3, 1) := by decide +kernel
theorem dX9_join_103 : decode cX9_join 103 = .ok (.iload_n 2, 1) := by decide +kernel
theorem dX9_join_104 : decode cX9_join 104 = .ok (.idiv, 1) := by decide +kernel
theorem dX9_join_105 : decode cX9_join 105 = .ok (.invokevirtual 75, 3) := by decide +kernel
theorem dX9_join_108 : decode cX9_join 108 = .ok (.iconst 0, 1) := by decide +kernel
theorem dX9_join_109 : decode cX9_join 109 = .ok (.istore 4, 2) := by decide +kernel
theorem dX9_join_111 : decode cX9_join 111 = .ok (.iload 4, 2) := by decide +kernel
theorem dX9_join_113 : decode cX9_join 113 = .ok (.aload_n 0, 1) := by decide +kernel
theorem dX9_join_114 : decode cX9_join 114 = .ok (.getfield 7, 3) := by decide +kernel
theorem dX9_join_117 : decode cX9_join 117 = .ok (.iconst 2, 1) := by decide +kernel
theorem dX9_join_118 : decode cX9_join 118 = .ok (.iaload, 1) := by decide +kernel
theorem dX9_join_119 : decode cX9_join 119 = .ok (.if_icmp .ge 45, 3) := by decide +kernel
theorem dX9_join_122 : decode cX9_join 122 = .ok (.iload 4, 2) := by decide +kernel
theorem dX9_join_124 : decode cX9_join 124 = .ok (.iload_n 1, 1) := by decide +kernel
theorem dX9_join_125 : decode cX9_join 125 = .ok (.iload_n 1, 1) := by decide +kernel
theorem dX9_join_126 : decode cX9_join 126 = .ok (.iconst 1, 1) := by decide +kernel
theorem dX9_join_127 : decode cX9_join 127 = .ok (.iadd, 1) := by decide +kernel
theorem dX9_join_128 : decode cX9_join 128 = .ok (.invokestatic 53, 3) := by decide +kernel
theorem dX9_join_131 : decode cX9_join 131 = .ok (.ifCond .ne 27, 3) := by decide +kernel
theorem dX9_join_134 : decode cX9_join 134 = .ok (.aload_n 0, 1) := by decide +kernel
theorem dX9_join_135 : decode cX9_join 135 = .ok (.aload_n 0, 1) := by decide +kernel
theorem dX9_join_136 : decode cX9_join 136 = .ok (.getfield 7, 3) := by decide +kernel
theorem dX9_join_139 : decode cX9_join 139 = .ok (.bipush 23, 2) := by decide +kernel
theorem dX9_join_141 : decode cX9_join 141 = .ok (.iload 4, 2) := by decide +kernel
theorem dX9_join_143 : decode cX9_join 143 = .ok (.iadd, 1) := by decide +kernel
theorem dX9_join_144 : decode cX9_join 144 = .ok (.iaload, 1) := by decide +kernel
theorem dX9_join_145 : decode cX9_join 145 = .ok (.aload_n 0, 1) := by decide +kernel
theorem dX9_join_146 : decode cX9_join 146 = .ok (.getfield 7, 3) := by decide +kernel
theorem dX9_join_149 : decode cX9_join 149 = .ok (.bipush 29, 2) := by decide +kernel
theorem dX9_join_151 : decode cX9_join 151 = .ok (.iload 4, 2) := by decide +kernel
theorem dX9_join_153 : decode cX9_join 153 = .ok (.iadd, 1) := by decide +kernel
theorem dX9_join_154 : decode cX9_join 154 = .ok (.iaload, 1) := by decide +kernel
theorem dX9_join_155 : decode cX9_join 155 = .ok (.invokevirtual 75, 3) := by decide +kernel
theorem dX9_join_158 : decode cX9_join 158 = .ok (.iinc 4 1, 3) := by decide +kernel
theorem dX9_join_161 : decode cX9_join 161 = .ok (.goto (-50), 3) := by decide +kernel
theorem dX9_join_164 : decode cX9_join 164 = .ok (.aload_n 0, 1) := by decide +kernel
theorem dX9_join_165 : decode cX9_join 165 = .ok (.invokevirtual 120, 3) := by decide +kernel
theorem dX9_join_168 : decode cX9_join 168 = .ok (.ifCond .ne 6, 3) := by decide +kernel
theorem dX9_join_171 : decode cX9_join 171 = .ok (.bipush (-4), 2) := by decide +kernel
theorem dX9_join_173 : decode cX9_join 173 = .ok (.ireturn, 1) := by decide +kernel
theorem dX9_join_174 : decode cX9_join 174 = .ok (.aload_n 0, 1) := by decide +kernel
theorem dX9_join_175 : decode cX9_join 175 = .ok (.invokevirtual 97, 3) := by decide +kernel
theorem dX9_join_178 : decode cX9_join 178 = .ok (.aload_n 0, 1) := by decide +kernel
theorem dX9_join_179 : decode cX9_join 179 = .ok (.invokevirtual 78, 3) := by decide +kernel
theorem dX9_join_182 : decode cX9_join 182 = .ok (.aload_n 0, 1) := by decide +kernel
theorem dX9_join_183 : decode cX9_join 183 = .ok (.getfield 72, 3) := by decide +kernel
theorem dX9_join_186 : decode cX9_join 186 = .ok (.ireturn, 1) := by decide +kernel
theorem dX9_adopts_0 : decode cX9_adopts 0 = .ok (.aload_n 0, 1) := by decide +kernel
theorem dX9_adopts_1 : decode cX9_adopts 1 = .ok (.getfield 7, 3) := by decide +kernel
theorem dX9_adopts_4 : decode cX9_adopts 4 = .ok (.iconst 0, 1) := by decide +kernel
theorem dX9_adopts_5 : decode cX9_adopts 5 = .ok (.iaload, 1) := by decide +kernel
theorem dX9_adopts_6 : decode cX9_adopts 6 = .ok (.istore_n 1, 1) := by decide +kernel
theorem dX9_adopts_7 : decode cX9_adopts 7 = .ok (.aload_n 0, 1) := by decide +kernel
theorem dX9_adopts_8 : decode cX9_adopts 8 = .ok (.iload_n 1, 1) := by decide +kernel
theorem dX9_adopts_9 : decode cX9_adopts 9 = .ok (.invokevirtual 124, 3) := by decide +kernel
theorem dX9_adopts_12 : decode cX9_adopts 12 = .ok (.aload_n 0, 1) := by decide +kernel
theorem dX9_adopts_13 : decode cX9_adopts 13 = .ok (.iconst 0, 1) := by decide +kernel
theorem dX9_adopts_14 : decode cX9_adopts 14 = .ok (.putfield 72, 3) := by decide +kernel
theorem dX9_adopts_17 : decode cX9_adopts 17 = .ok (.aload_n 0, 1) := by decide +kernel
theorem dX9_adopts_18 : decode cX9_adopts 18 = .ok (.aload_n 0, 1) := by decide +kernel
theorem dX9_adopts_19 : decode cX9_adopts 19 = .ok (.iload_n 1, 1) := by decide +kernel
theorem dX9_adopts_20 : decode cX9_adopts 20 = .ok (.iconst 1, 1) := by decide +kernel
theorem dX9_adopts_21 : decode cX9_adopts 21 = .ok (.invokevirtual 127, 3) := by decide +kernel
theorem dX9_adopts_24 : decode cX9_adopts 24 = .ok (.aload_n 0, 1) := by decide +kernel
theorem dX9_adopts_25 : decode cX9_adopts 25 = .ok (.getfield 91, 3) := by decide +kernel
theorem dX9_adopts_28 : decode cX9_adopts 28 = .ok (.invokevirtual 75, 3) := by decide +kernel
theorem dX9_adopts_31 : decode cX9_adopts 31 = .ok (.aload_n 0, 1) := by decide +kernel
theorem dX9_adopts_32 : decode cX9_adopts 32 = .ok (.aload_n 0, 1) := by decide +kernel
theorem dX9_adopts_33 : decode cX9_adopts 33 = .ok (.iload_n 1, 1) := by decide +kernel
theorem dX9_adopts_34 : decode cX9_adopts 34 = .ok (.iconst 0, 1) := by decide +kernel
theorem dX9_adopts_35 : decode cX9_adopts 35 = .ok (.invokevirtual 127, 3) := by decide +kernel
theorem dX9_adopts_38 : decode cX9_adopts 38 = .ok (.aload_n 0, 1) := by decide +kernel
theorem dX9_adopts_39 : decode cX9_adopts 39 = .ok (.getfield 94, 3) := by decide +kernel
theorem dX9_adopts_42 : decode cX9_adopts 42 = .ok (.invokevirtual 75, 3) := by decide +kernel
theorem dX9_adopts_45 : decode cX9_adopts 45 = .ok (.aload_n 0, 1) := by decide +kernel
theorem dX9_adopts_46 : decode cX9_adopts 46 = .ok (.invokevirtual 78, 3) := by decide +kernel
theorem dX9_adopts_49 : decode cX9_adopts 49 = .ok (.aload_n 0, 1) := by decide +kernel
theorem dX9_adopts_50 : decode cX9_adopts 50 = .ok (.getfield 72, 3) := by decide +kernel
theorem dX9_adopts_53 : decode cX9_adopts 53 = .ok (.ireturn, 1) := by decide +kernel
theorem dX9_adopt_0 : decode cX9_adopt 0 = .ok (.aload_n 0, 1) := by decide +kernel
theorem dX9_adopt_1 : decode cX9_adopt 1 = .ok (.invokevirtual 97, 3) := by decide +kernel
theorem dX9_adopt_4 : decode cX9_adopt 4 = .ok (.aload_n 0, 1) := by decide +kernel
theorem dX9_adopt_5 : decode cX9_adopt 5 = .ok (.invokevirtual 131, 3) := by decide +kernel
theorem dX9_adopt_8 : decode cX9_adopt 8 = .ok (.ireturn, 1) := by decide +kernel
theorem dX9_receiver_0 : decode cX9_receiver 0 = .ok (.aload_n 0, 1) := by decide +kernel
theorem dX9_receiver_1 : decode cX9_receiver 1 = .ok (.iload_n 1, 1) := by decide +kernel
theorem dX9_receiver_2 : decode cX9_receiver 2 = .ok (.invokevirtual 110, 3) := by decide +kernel
theorem dX9_receiver_5 : decode cX9_receiver 5 = .ok (.ifCond .ne 5, 3) := by decide +kernel
theorem dX9_receiver_8 : decode cX9_receiver 8 = .ok (.iconst (-1), 1) := by decide +kernel
theorem dX9_receiver_9 : decode cX9_receiver 9 = .ok (.ireturn, 1) := by decide +kernel
theorem dX9_receiver_10 : decode cX9_receiver 10 = .ok (.iload_n 2, 1) := by decide +kernel
theorem dX9_receiver_11 : decode cX9_receiver 11 = .ok (.tableswitch 56 0 4 #[33, 33, 33, 40, 50], 33) := by decide +kernel
theorem dX9_receiver_44 : decode cX9_receiver 44 = .ok (.aload_n 0, 1) := by decide +kernel
theorem dX9_receiver_45 : decode cX9_receiver 45 = .ok (.iload_n 1, 1) := by decide +kernel
theorem dX9_receiver_46 : decode cX9_receiver 46 = .ok (.iload_n 2, 1) := by decide +kernel
theorem dX9_receiver_47 : decode cX9_receiver 47 = .ok (.invokevirtual 57, 3) := by decide +kernel
theorem dX9_receiver_50 : decode cX9_receiver 50 = .ok (.ireturn, 1) := by decide +kernel
theorem dX9_receiver_51 : decode cX9_receiver 51 = .ok (.aload_n 0, 1) := by decide +kernel
theorem dX9_receiver_52 : decode cX9_receiver 52 = .ok (.iload_n 1, 1) := by decide +kernel
theorem dX9_receiver_53 : decode cX9_receiver 53 = .ok (.iconst 3, 1) := by decide +kernel
theorem dX9_receiver_54 : decode cX9_receiver 54 = .ok (.invokevirtual 57, 3) := by decide +kernel
theorem dX9_receiver_57 : decode cX9_receiver 57 = .ok (.bipush 100, 2) := by decide +kernel
theorem dX9_receiver_59 : decode cX9_receiver 59 = .ok (.iadd, 1) := by decide +kernel
theorem dX9_receiver_60 : decode cX9_receiver 60 = .ok (.ireturn, 1) := by decide +kernel
theorem dX9_receiver_61 : decode cX9_receiver 61 = .ok (.aload_n 0, 1) := by decide +kernel
theorem dX9_receiver_62 : decode cX9_receiver 62 = .ok (.iload_n 1, 1) := by decide +kernel
theorem dX9_receiver_63 : decode cX9_receiver 63 = .ok (.invokevirtual 134, 3) := by decide +kernel
theorem dX9_receiver_66 : decode cX9_receiver 66 = .ok (.ireturn, 1) := by decide +kernel
theorem dX9_receiver_67 : decode cX9_receiver 67 = .ok (.bipush (-2), 2) := by decide +kernel
theorem dX9_receiver_69 : decode cX9_receiver 69 = .ok (.ireturn, 1) := by decide +kernel
theorem dX9_part_0 : decode cX9_part 0 = .ok (.aload_n 0, 1) := by decide +kernel
theorem dX9_part_1 : decode cX9_part 1 = .ok (.iload_n 1, 1) := by decide +kernel
theorem dX9_part_2 : decode cX9_part 2 = .ok (.invokevirtual 117, 3) := by decide +kernel
theorem dX9_part_5 : decode cX9_part 5 = .ok (.ifCond .ne 5, 3) := by decide +kernel
theorem dX9_part_8 : decode cX9_part 8 = .ok (.iconst (-1), 1) := by decide +kernel
theorem dX9_part_9 : decode cX9_part 9 = .ok (.ireturn, 1) := by decide +kernel
theorem dX9_part_10 : decode cX9_part 10 = .ok (.aload_n 0, 1) := by decide +kernel
theorem dX9_part_11 : decode cX9_part 11 = .ok (.getfield 7, 3) := by decide +kernel
theorem dX9_part_14 : decode cX9_part 14 = .ok (.bipush 29, 2) := by decide +kernel
theorem dX9_part_16 : decode cX9_part 16 = .ok (.iload_n 1, 1) := by decide +kernel
theorem dX9_part_17 : decode cX9_part 17 = .ok (.iadd, 1) := by decide +kernel
theorem dX9_part_18 : decode cX9_part 18 = .ok (.iaload, 1) := by decide +kernel
theorem dX9_part_19 : decode cX9_part 19 = .ok (.istore_n 3, 1) := by decide +kernel
theorem dX9_part_20 : decode cX9_part 20 = .ok (.iload_n 2, 1) := by decide +kernel
theorem dX9_part_21 : decode cX9_part 21 = .ok (.tableswitch 59 0 3 #[31, 41, 43, 49], 31) := by decide +kernel
theorem dX9_part_52 : decode cX9_part 52 = .ok (.aload_n 0, 1) := by decide +kernel
theorem dX9_part_53 : decode cX9_part 53 = .ok (.getfield 7, 3) := by decide +kernel
theorem dX9_part_56 : decode cX9_part 56 = .ok (.bipush 23, 2) := by decide +kernel
theorem dX9_part_58 : decode cX9_part 58 = .ok (.iload_n 1, 1) := by decide +kernel
theorem dX9_part_59 : decode cX9_part 59 = .ok (.iadd, 1) := by decide +kernel
theorem dX9_part_60 : decode cX9_part 60 = .ok (.iaload, 1) := by decide +kernel
theorem dX9_part_61 : decode cX9_part 61 = .ok (.ireturn, 1) := by decide +kernel
theorem dX9_part_62 : decode cX9_part 62 = .ok (.iload_n 3, 1) := by decide +kernel
theorem dX9_part_63 : decode cX9_part 63 = .ok (.ireturn, 1) := by decide +kernel
theorem dX9_part_64 : decode cX9_part 64 = .ok (.aload_n 0, 1) := by decide +kernel
theorem dX9_part_65 : decode cX9_part 65 = .ok (.iload_n 3, 1) := by decide +kernel
theorem dX9_part_66 : decode cX9_part 66 = .ok (.invokevirtual 64, 3) := by decide +kernel
theorem dX9_part_69 : decode cX9_part 69 = .ok (.ireturn, 1) := by decide +kernel
theorem dX9_part_70 : decode cX9_part 70 = .ok (.aload_n 0, 1) := by decide +kernel
theorem dX9_part_71 : decode cX9_part 71 = .ok (.iload_n 3, 1) := by decide +kernel
theorem dX9_part_72 : decode cX9_part 72 = .ok (.invokevirtual 81, 3) := by decide +kernel
theorem dX9_part_75 : decode cX9_part 75 = .ok (.sipush 1000, 3) := by decide +kernel
theorem dX9_part_78 : decode cX9_part 78 = .ok (.iadd, 1) := by decide +kernel
theorem dX9_part_79 : decode cX9_part 79 = .ok (.ireturn, 1) := by decide +kernel
theorem dX9_part_80 : decode cX9_part 80 = .ok (.bipush (-2), 2) := by decide +kernel
theorem dX9_part_82 : decode cX9_part 82 = .ok (.ireturn, 1) := by decide +kernel
theorem dX9_isShare_0 : decode cX9_isShare 0 = .ok (.iload_n 0, 1) := by decide +kernel
theorem dX9_isShare_1 : decode cX9_isShare 1 = .ok (.iconst 0, 1) := by decide +kernel
theorem dX9_isShare_2 : decode cX9_isShare 2 = .ok (.bipush 100, 2) := by decide +kernel
theorem dX9_isShare_4 : decode cX9_isShare 4 = .ok (.invokestatic 53, 3) := by decide +kernel
theorem dX9_isShare_7 : decode cX9_isShare 7 = .ok (.ireturn, 1) := by decide +kernel
theorem dX9_value_0 : decode cX9_value 0 = .ok (.iload_n 1, 1) := by decide +kernel
theorem dX9_value_1 : decode cX9_value 1 = .ok (.invokestatic 137, 3) := by decide +kernel
theorem dX9_value_4 : decode cX9_value 4 = .ok (.ifCond .eq 15, 3) := by decide +kernel
theorem dX9_value_7 : decode cX9_value 7 = .ok (.aload_n 0, 1) := by decide +kernel
theorem dX9_value_8 : decode cX9_value 8 = .ok (.iload_n 1, 1) := by decide +kernel
theorem dX9_value_9 : decode cX9_value 9 = .ok (.invokevirtual 81, 3) := by decide +kernel
theorem dX9_value_12 : decode cX9_value 12 = .ok (.sipush 1000, 3) := by decide +kernel
theorem dX9_value_15 : decode cX9_value 15 = .ok (.iadd, 1) := by decide +kernel
theorem dX9_value_16 : decode cX9_value 16 = .ok (.goto 5, 3) := by decide +kernel
theorem dX9_value_19 : decode cX9_value 19 = .ok (.bipush (-2), 2) := by decide +kernel
theorem dX9_value_21 : decode cX9_value 21 = .ok (.ireturn, 1) := by decide +kernel
theorem dX9_mean_0 : decode cX9_mean 0 = .ok (.aload_n 0, 1) := by decide +kernel
theorem dX9_mean_1 : decode cX9_mean 1 = .ok (.invokevirtual 140, 3) := by decide +kernel
theorem dX9_mean_4 : decode cX9_mean 4 = .ok (.iload_n 1, 1) := by decide +kernel
theorem dX9_mean_5 : decode cX9_mean 5 = .ok (.ifCond .ne 13, 3) := by decide +kernel
theorem dX9_mean_8 : decode cX9_mean 8 = .ok (.aload_n 0, 1) := by decide +kernel
theorem dX9_mean_9 : decode cX9_mean 9 = .ok (.getfield 47, 3) := by decide +kernel
theorem dX9_mean_12 : decode cX9_mean 12 = .ok (.ldc 143, 2) := by decide +kernel
theorem dX9_mean_14 : decode cX9_mean 14 = .ok (.iadd, 1) := by decide +kernel
theorem dX9_mean_15 : decode cX9_mean 15 = .ok (.goto 17, 3) := by decide +kernel
theorem dX9_mean_18 : decode cX9_mean 18 = .ok (.iload_n 1, 1) := by decide +kernel
theorem dX9_mean_19 : decode cX9_mean 19 = .ok (.iconst 1, 1) := by decide +kernel
theorem dX9_mean_20 : decode cX9_mean 20 = .ok (.if_icmp .ne 10, 3) := by decide +kernel
theorem dX9_mean_23 : decode cX9_mean 23 = .ok (.aload_n 0, 1) := by decide +kernel
theorem dX9_mean_24 : decode cX9_mean 24 = .ok (.getfield 50, 3) := by decide +kernel
theorem dX9_mean_27 : decode cX9_mean 27 = .ok (.goto 5, 3) := by decide +kernel
theorem dX9_mean_30 : decode cX9_mean 30 = .ok (.bipush (-2), 2) := by decide +kernel
theorem dX9_mean_32 : decode cX9_mean 32 = .ok (.ireturn, 1) := by decide +kernel
theorem dX9_worth_0 : decode cX9_worth 0 = .ok (.aload_n 0, 1) := by decide +kernel
theorem dX9_worth_1 : decode cX9_worth 1 = .ok (.iload_n 1, 1) := by decide +kernel
theorem dX9_worth_2 : decode cX9_worth 2 = .ok (.invokevirtual 110, 3) := by decide +kernel
theorem dX9_worth_5 : decode cX9_worth 5 = .ok (.ifCond .ne 5, 3) := by decide +kernel
theorem dX9_worth_8 : decode cX9_worth 8 = .ok (.iconst (-1), 1) := by decide +kernel
theorem dX9_worth_9 : decode cX9_worth 9 = .ok (.ireturn, 1) := by decide +kernel
theorem dX9_worth_10 : decode cX9_worth 10 = .ok (.iconst 0, 1) := by decide +kernel
theorem dX9_worth_11 : decode cX9_worth 11 = .ok (.istore_n 3, 1) := by decide +kernel
theorem dX9_worth_12 : decode cX9_worth 12 = .ok (.iconst 0, 1) := by decide +kernel
theorem dX9_worth_13 : decode cX9_worth 13 = .ok (.istore 4, 2) := by decide +kernel
theorem dX9_worth_15 : decode cX9_worth 15 = .ok (.iload 4, 2) := by decide +kernel
theorem dX9_worth_17 : decode cX9_worth 17 = .ok (.aload_n 0, 1) := by decide +kernel
theorem dX9_worth_18 : decode cX9_worth 18 = .ok (.getfield 7, 3) := by decide +kernel
theorem dX9_worth_21 : decode cX9_worth 21 = .ok (.iconst 2, 1) := by decide +kernel
theorem dX9_worth_22 : decode cX9_worth 22 = .ok (.iaload, 1) := by decide +kernel
theorem dX9_worth_23 : decode cX9_worth 23 = .ok (.if_icmp .ge 38, 3) := by decide +kernel
theorem dX9_worth_26 : decode cX9_worth 26 = .ok (.iload_n 3, 1) := by decide +kernel
theorem dX9_worth_27 : decode cX9_worth 27 = .ok (.aload_n 0, 1) := by decide +kernel
theorem dX9_worth_28 : decode cX9_worth 28 = .ok (.getfield 7, 3) := by decide +kernel
theorem dX9_worth_31 : decode cX9_worth 31 = .ok (.bipush 23, 2) := by decide +kernel
theorem dX9_worth_33 : decode cX9_worth 33 = .ok (.iload 4, 2) := by decide +kernel
theorem dX9_worth_35 : decode cX9_worth 35 = .ok (.iadd, 1) := by decide +kernel
theorem dX9_worth_36 : decode cX9_worth 36 = .ok (.iaload, 1) := by decide +kernel
theorem dX9_worth_37 : decode cX9_worth 37 = .ok (.aload_n 0, 1) := by decide +kernel
theorem dX9_worth_38 : decode cX9_worth 38 = .ok (.iload_n 1, 1) := by decide +kernel
theorem dX9_worth_39 : decode cX9_worth 39 = .ok (.aload_n 0, 1) := by decide +kernel
theorem dX9_worth_40 : decode cX9_worth 40 = .ok (.getfield 7, 3) := by decide +kernel
theorem dX9_worth_43 : decode cX9_worth 43 = .ok (.bipush 29, 2) := by decide +kernel
theorem dX9_worth_45 : decode cX9_worth 45 = .ok (.iload 4, 2) := by decide +kernel
theorem dX9_worth_47 : decode cX9_worth 47 = .ok (.iadd, 1) := by decide +kernel
theorem dX9_worth_48 : decode cX9_worth 48 = .ok (.iaload, 1) := by decide +kernel
theorem dX9_worth_49 : decode cX9_worth 49 = .ok (.invokevirtual 144, 3) := by decide +kernel
theorem dX9_worth_52 : decode cX9_worth 52 = .ok (.imul, 1) := by decide +kernel
theorem dX9_worth_53 : decode cX9_worth 53 = .ok (.iadd, 1) := by decide +kernel
theorem dX9_worth_54 : decode cX9_worth 54 = .ok (.istore_n 3, 1) := by decide +kernel
theorem dX9_worth_55 : decode cX9_worth 55 = .ok (.iinc 4 1, 3) := by decide +kernel
theorem dX9_worth_58 : decode cX9_worth 58 = .ok (.goto (-43), 3) := by decide +kernel
theorem dX9_worth_61 : decode cX9_worth 61 = .ok (.aload_n 0, 1) := by decide +kernel
theorem dX9_worth_62 : decode cX9_worth 62 = .ok (.iload_n 3, 1) := by decide +kernel
theorem dX9_worth_63 : decode cX9_worth 63 = .ok (.bipush 100, 2) := by decide +kernel
theorem dX9_worth_65 : decode cX9_worth 65 = .ok (.aload_n 0, 1) := by decide +kernel
theorem dX9_worth_66 : decode cX9_worth 66 = .ok (.invokevirtual 84, 3) := by decide +kernel
theorem dX9_worth_69 : decode cX9_worth 69 = .ok (.imul, 1) := by decide +kernel
theorem dX9_worth_70 : decode cX9_worth 70 = .ok (.invokevirtual 88, 3) := by decide +kernel
theorem dX9_worth_73 : decode cX9_worth 73 = .ok (.iload_n 2, 1) := by decide +kernel
theorem dX9_worth_74 : decode cX9_worth 74 = .ok (.ifCond .ne 10, 3) := by decide +kernel
theorem dX9_worth_77 : decode cX9_worth 77 = .ok (.aload_n 0, 1) := by decide +kernel
theorem dX9_worth_78 : decode cX9_worth 78 = .ok (.getfield 47, 3) := by decide +kernel
theorem dX9_worth_81 : decode cX9_worth 81 = .ok (.goto 17, 3) := by decide +kernel
theorem dX9_worth_84 : decode cX9_worth 84 = .ok (.iload_n 2, 1) := by decide +kernel
theorem dX9_worth_85 : decode cX9_worth 85 = .ok (.iconst 1, 1) := by decide +kernel
theorem dX9_worth_86 : decode cX9_worth 86 = .ok (.if_icmp .ne 10, 3) := by decide +kernel
theorem dX9_worth_89 : decode cX9_worth 89 = .ok (.aload_n 0, 1) := by decide +kernel
theorem dX9_worth_90 : decode cX9_worth 90 = .ok (.getfield 50, 3) := by decide +kernel
theorem dX9_worth_93 : decode cX9_worth 93 = .ok (.goto 5, 3) := by decide +kernel
theorem dX9_worth_96 : decode cX9_worth 96 = .ok (.bipush (-2), 2) := by decide +kernel
theorem dX9_worth_98 : decode cX9_worth 98 = .ok (.ireturn, 1) := by decide +kernel
theorem dX9_isBest_0 : decode cX9_isBest 0 = .ok (.aload_n 0, 1) := by decide +kernel
theorem dX9_isBest_1 : decode cX9_isBest 1 = .ok (.invokevirtual 140, 3) := by decide +kernel
theorem dX9_isBest_4 : decode cX9_isBest 4 = .ok (.aload_n 0, 1) := by decide +kernel
theorem dX9_isBest_5 : decode cX9_isBest 5 = .ok (.getfield 47, 3) := by decide +kernel
theorem dX9_isBest_8 : decode cX9_isBest 8 = .ok (.istore_n 1, 1) := by decide +kernel
theorem dX9_isBest_9 : decode cX9_isBest 9 = .ok (.aload_n 0, 1) := by decide +kernel
theorem dX9_isBest_10 : decode cX9_isBest 10 = .ok (.getfield 50, 3) := by decide +kernel
theorem dX9_isBest_13 : decode cX9_isBest 13 = .ok (.istore_n 2, 1) := by decide +kernel
theorem dX9_isBest_14 : decode cX9_isBest 14 = .ok (.aload_n 0, 1) := by decide +kernel
theorem dX9_isBest_15 : decode cX9_isBest 15 = .ok (.aload_n 0, 1) := by decide +kernel
theorem dX9_isBest_16 : decode cX9_isBest 16 = .ok (.getfield 7, 3) := by decide +kernel
theorem dX9_isBest_19 : decode cX9_isBest 19 = .ok (.iconst 0, 1) := by decide +kernel
theorem dX9_isBest_20 : decode cX9_isBest 20 = .ok (.iaload, 1) := by decide +kernel
theorem dX9_isBest_21 : decode cX9_isBest 21 = .ok (.invokevirtual 124, 3) := by decide +kernel
theorem dX9_isBest_24 : decode cX9_isBest 24 = .ok (.iload_n 1, 1) := by decide +kernel
theorem dX9_isBest_25 : decode cX9_isBest 25 = .ok (.aload_n 0, 1) := by decide +kernel
theorem dX9_isBest_26 : decode cX9_isBest 26 = .ok (.getfield 47, 3) := by decide +kernel
theorem dX9_isBest_29 : decode cX9_isBest 29 = .ok (.if_icmp .ne 15, 3) := by decide +kernel
theorem dX9_isBest_32 : decode cX9_isBest 32 = .ok (.iload_n 2, 1) := by decide +kernel
theorem dX9_isBest_33 : decode cX9_isBest 33 = .ok (.aload_n 0, 1) := by decide +kernel
theorem dX9_isBest_34 : decode cX9_isBest 34 = .ok (.getfield 50, 3) := by decide +kernel
theorem dX9_isBest_37 : decode cX9_isBest 37 = .ok (.if_icmp .ne 7, 3) := by decide +kernel
theorem dX9_isBest_40 : decode cX9_isBest 40 = .ok (.iconst 1, 1) := by decide +kernel
theorem dX9_isBest_41 : decode cX9_isBest 41 = .ok (.goto 4, 3) := by decide +kernel
theorem dX9_isBest_44 : decode cX9_isBest 44 = .ok (.iconst 0, 1) := by decide +kernel
theorem dX9_isBest_45 : decode cX9_isBest 45 = .ok (.ireturn, 1) := by decide +kernel
theorem dX9_count_0 : decode cX9_count 0 = .ok (.iload_n 1, 1) := by decide +kernel
theorem dX9_count_1 : decode cX9_count 1 = .ok (.tableswitch 78 0 6 #[43, 43, 43, 50, 55, 68, 73], 43) := by decide +kernel
theorem dX9_count_44 : decode cX9_count 44 = .ok (.aload_n 0, 1) := by decide +kernel
theorem dX9_count_45 : decode cX9_count 45 = .ok (.getfield 7, 3) := by decide +kernel
theorem dX9_count_48 : decode cX9_count 48 = .ok (.iload_n 1, 1) := by decide +kernel
theorem dX9_count_49 : decode cX9_count 49 = .ok (.iaload, 1) := by decide +kernel
theorem dX9_count_50 : decode cX9_count 50 = .ok (.ireturn, 1) := by decide +kernel
theorem dX9_count_51 : decode cX9_count 51 = .ok (.aload_n 0, 1) := by decide +kernel
theorem dX9_count_52 : decode cX9_count 52 = .ok (.invokevirtual 84, 3) := by decide +kernel
theorem dX9_count_55 : decode cX9_count 55 = .ok (.ireturn, 1) := by decide +kernel
theorem dX9_count_56 : decode cX9_count 56 = .ok (.aload_n 0, 1) := by decide +kernel
theorem dX9_count_57 : decode cX9_count 57 = .ok (.invokevirtual 147, 3) := by decide +kernel
theorem dX9_count_60 : decode cX9_count 60 = .ok (.ifCond .eq 7, 3) := by decide +kernel
theorem dX9_count_63 : decode cX9_count 63 = .ok (.iconst 1, 1) := by decide +kernel
theorem dX9_count_64 : decode cX9_count 64 = .ok (.goto 4, 3) := by decide +kernel
theorem dX9_count_67 : decode cX9_count 67 = .ok (.iconst 0, 1) := by decide +kernel
theorem dX9_count_68 : decode cX9_count 68 = .ok (.ireturn, 1) := by decide +kernel
theorem dX9_count_69 : decode cX9_count 69 = .ok (.aload_n 0, 1) := by decide +kernel
theorem dX9_count_70 : decode cX9_count 70 = .ok (.getfield 150, 3) := by decide +kernel
theorem dX9_count_73 : decode cX9_count 73 = .ok (.ireturn, 1) := by decide +kernel
theorem dX9_count_74 : decode cX9_count 74 = .ok (.aload_n 0, 1) := by decide +kernel
theorem dX9_count_75 : decode cX9_count 75 = .ok (.getfield 35, 3) := by decide +kernel
theorem dX9_count_78 : decode cX9_count 78 = .ok (.ireturn, 1) := by decide +kernel
theorem dX9_count_79 : decode cX9_count 79 = .ok (.bipush (-2), 2) := by decide +kernel
theorem dX9_count_81 : decode cX9_count 81 = .ok (.ireturn, 1) := by decide +kernel
theorem dX9_envelope_0 : decode cX9_envelope 0 = .ok (.iload_n 1, 1) := by decide +kernel
theorem dX9_envelope_1 : decode cX9_envelope 1 = .ok (.invokestatic 137, 3) := by decide +kernel
theorem dX9_envelope_4 : decode cX9_envelope 4 = .ok (.ifCond .eq 12, 3) := by decide +kernel
theorem dX9_envelope_7 : decode cX9_envelope 7 = .ok (.iload_n 2, 1) := by decide +kernel
theorem dX9_envelope_8 : decode cX9_envelope 8 = .ok (.iconst 0, 1) := by decide +kernel
theorem dX9_envelope_9 : decode cX9_envelope 9 = .ok (.iconst 1, 1) := by decide +kernel
theorem dX9_envelope_10 : decode cX9_envelope 10 = .ok (.invokestatic 53, 3) := by decide +kernel
theorem dX9_envelope_13 : decode cX9_envelope 13 = .ok (.ifCond .ne 6, 3) := by decide +kernel
theorem dX9_envelope_16 : decode cX9_envelope 16 = .ok (.bipush (-2), 2) := by decide +kernel
theorem dX9_envelope_18 : decode cX9_envelope 18 = .ok (.ireturn, 1) := by decide +kernel
theorem dX9_envelope_19 : decode cX9_envelope 19 = .ok (.aload_n 0, 1) := by decide +kernel
theorem dX9_envelope_20 : decode cX9_envelope 20 = .ok (.iload_n 1, 1) := by decide +kernel
theorem dX9_envelope_21 : decode cX9_envelope 21 = .ok (.invokevirtual 124, 3) := by decide +kernel
theorem dX9_envelope_24 : decode cX9_envelope 24 = .ok (.iload_n 2, 1) := by decide +kernel
theorem dX9_envelope_25 : decode cX9_envelope 25 = .ok (.ifCond .ne 13, 3) := by decide +kernel
theorem dX9_envelope_28 : decode cX9_envelope 28 = .ok (.aload_n 0, 1) := by decide +kernel
theorem dX9_envelope_29 : decode cX9_envelope 29 = .ok (.getfield 47, 3) := by decide +kernel
theorem dX9_envelope_32 : decode cX9_envelope 32 = .ok (.ldc 143, 2) := by decide +kernel
theorem dX9_envelope_34 : decode cX9_envelope 34 = .ok (.iadd, 1) := by decide +kernel
theorem dX9_envelope_35 : decode cX9_envelope 35 = .ok (.goto 7, 3) := by decide +kernel
theorem dX9_envelope_38 : decode cX9_envelope 38 = .ok (.aload_n 0, 1) := by decide +kernel
theorem dX9_envelope_39 : decode cX9_envelope 39 = .ok (.getfield 50, 3) := by decide +kernel
theorem dX9_envelope_42 : decode cX9_envelope 42 = .ok (.ireturn, 1) := by decide +kernel
theorem dX9_best_0 : decode cX9_best 0 = .ok (.iload_n 1, 1) := by decide +kernel
theorem dX9_best_1 : decode cX9_best 1 = .ok (.invokestatic 137, 3) := by decide +kernel
theorem dX9_best_4 : decode cX9_best 4 = .ok (.ifCond .eq 12, 3) := by decide +kernel
theorem dX9_best_7 : decode cX9_best 7 = .ok (.iload_n 2, 1) := by decide +kernel
theorem dX9_best_8 : decode cX9_best 8 = .ok (.iconst 0, 1) := by decide +kernel
theorem dX9_best_9 : decode cX9_best 9 = .ok (.iconst 3, 1) := by decide +kernel
theorem dX9_best_10 : decode cX9_best 10 = .ok (.invokestatic 53, 3) := by decide +kernel
theorem dX9_best_13 : decode cX9_best 13 = .ok (.ifCond .ne 6, 3) := by decide +kernel
theorem dX9_best_16 : decode cX9_best 16 = .ok (.bipush (-2), 2) := by decide +kernel
theorem dX9_best_18 : decode cX9_best 18 = .ok (.ireturn, 1) := by decide +kernel
theorem dX9_best_19 : decode cX9_best 19 = .ok (.aload_n 0, 1) := by decide +kernel
theorem dX9_best_20 : decode cX9_best 20 = .ok (.iload_n 1, 1) := by decide +kernel
theorem dX9_best_21 : decode cX9_best 21 = .ok (.invokevirtual 124, 3) := by decide +kernel
theorem dX9_best_24 : decode cX9_best 24 = .ok (.iload_n 2, 1) := by decide +kernel
theorem dX9_best_25 : decode cX9_best 25 = .ok (.ifCond .ne 10, 3) := by decide +kernel
theorem dX9_best_28 : decode cX9_best 28 = .ok (.aload_n 0, 1) := by decide +kernel
theorem dX9_best_29 : decode cX9_best 29 = .ok (.getfield 91, 3) := by decide +kernel
theorem dX9_best_32 : decode cX9_best 32 = .ok (.goto 30, 3) := by decide +kernel
theorem dX9_best_35 : decode cX9_best 35 = .ok (.iload_n 2, 1) := by decide +kernel
theorem dX9_best_36 : decode cX9_best 36 = .ok (.iconst 1, 1) := by decide +kernel
theorem dX9_best_37 : decode cX9_best 37 = .ok (.if_icmp .ne 10, 3) := by decide +kernel
theorem dX9_best_40 : decode cX9_best 40 = .ok (.aload_n 0, 1) := by decide +kernel
theorem dX9_best_41 : decode cX9_best 41 = .ok (.getfield 94, 3) := by decide +kernel
theorem dX9_best_44 : decode cX9_best 44 = .ok (.goto 18, 3) := by decide +kernel
theorem dX9_best_47 : decode cX9_best 47 = .ok (.aload_n 0, 1) := by decide +kernel
theorem dX9_best_48 : decode cX9_best 48 = .ok (.iload_n 1, 1) := by decide +kernel
theorem dX9_best_49 : decode cX9_best 49 = .ok (.iload_n 2, 1) := by decide +kernel
theorem dX9_best_50 : decode cX9_best 50 = .ok (.iconst 2, 1) := by decide +kernel
theorem dX9_best_51 : decode cX9_best 51 = .ok (.if_icmp .ne 7, 3) := by decide +kernel
theorem dX9_best_54 : decode cX9_best 54 = .ok (.iconst 1, 1) := by decide +kernel
theorem dX9_best_55 : decode cX9_best 55 = .ok (.goto 4, 3) := by decide +kernel
theorem dX9_best_58 : decode cX9_best 58 = .ok (.iconst 0, 1) := by decide +kernel
theorem dX9_best_59 : decode cX9_best 59 = .ok (.invokevirtual 127, 3) := by decide +kernel
theorem dX9_best_62 : decode cX9_best 62 = .ok (.ireturn, 1) := by decide +kernel
theorem dX9_mostGained_0 : decode cX9_mostGained 0 = .ok (.iload_n 1, 1) := by decide +kernel
theorem dX9_mostGained_1 : decode cX9_mostGained 1 = .ok (.iconst 0, 1) := by decide +kernel
theorem dX9_mostGained_2 : decode cX9_mostGained 2 = .ok (.iconst 2, 1) := by decide +kernel
theorem dX9_mostGained_3 : decode cX9_mostGained 3 = .ok (.invokestatic 53, 3) := by decide +kernel
theorem dX9_mostGained_6 : decode cX9_mostGained 6 = .ok (.ifCond .ne 6, 3) := by decide +kernel
theorem dX9_mostGained_9 : decode cX9_mostGained 9 = .ok (.bipush (-2), 2) := by decide +kernel
theorem dX9_mostGained_11 : decode cX9_mostGained 11 = .ok (.ireturn, 1) := by decide +kernel
theorem dX9_mostGained_12 : decode cX9_mostGained 12 = .ok (.bipush (-6), 2) := by decide +kernel
theorem dX9_mostGained_14 : decode cX9_mostGained 14 = .ok (.istore_n 2, 1) := by decide +kernel
theorem dX9_mostGained_15 : decode cX9_mostGained 15 = .ok (.iconst (-1), 1) := by decide +kernel
theorem dX9_mostGained_16 : decode cX9_mostGained 16 = .ok (.istore_n 3, 1) := by decide +kernel
theorem dX9_mostGained_17 : decode cX9_mostGained 17 = .ok (.iconst 1, 1) := by decide +kernel
theorem dX9_mostGained_18 : decode cX9_mostGained 18 = .ok (.istore 4, 2) := by decide +kernel
theorem dX9_mostGained_20 : decode cX9_mostGained 20 = .ok (.iconst 1, 1) := by decide +kernel
theorem dX9_mostGained_21 : decode cX9_mostGained 21 = .ok (.istore 5, 2) := by decide +kernel
theorem dX9_mostGained_23 : decode cX9_mostGained 23 = .ok (.iload 5, 2) := by decide +kernel
theorem dX9_mostGained_25 : decode cX9_mostGained 25 = .ok (.bipush 100, 2) := by decide +kernel
theorem dX9_mostGained_27 : decode cX9_mostGained 27 = .ok (.if_icmp .ge 59, 3) := by decide +kernel
theorem dX9_mostGained_30 : decode cX9_mostGained 30 = .ok (.aload_n 0, 1) := by decide +kernel
theorem dX9_mostGained_31 : decode cX9_mostGained 31 = .ok (.iload 5, 2) := by decide +kernel
theorem dX9_mostGained_33 : decode cX9_mostGained 33 = .ok (.invokevirtual 124, 3) := by decide +kernel
theorem dX9_mostGained_36 : decode cX9_mostGained 36 = .ok (.aload_n 0, 1) := by decide +kernel
theorem dX9_mostGained_37 : decode cX9_mostGained 37 = .ok (.getfield 47, 3) := by decide +kernel
theorem dX9_mostGained_40 : decode cX9_mostGained 40 = .ok (.aload_n 0, 1) := by decide +kernel
theorem dX9_mostGained_41 : decode cX9_mostGained 41 = .ok (.iload 5, 2) := by decide +kernel
theorem dX9_mostGained_43 : decode cX9_mostGained 43 = .ok (.invokevirtual 81, 3) := by decide +kernel
theorem dX9_mostGained_46 : decode cX9_mostGained 46 = .ok (.aload_n 0, 1) := by decide +kernel
theorem dX9_mostGained_47 : decode cX9_mostGained 47 = .ok (.getfield 50, 3) := by decide +kernel
theorem dX9_mostGained_50 : decode cX9_mostGained 50 = .ok (.imul, 1) := by decide +kernel
theorem dX9_mostGained_51 : decode cX9_mostGained 51 = .ok (.isub, 1) := by decide +kernel
theorem dX9_mostGained_52 : decode cX9_mostGained 52 = .ok (.istore 6, 2) := by decide +kernel
theorem dX9_mostGained_54 : decode cX9_mostGained 54 = .ok (.iload 6, 2) := by decide +kernel
theorem dX9_mostGained_56 : decode cX9_mostGained 56 = .ok (.iload 4, 2) := by decide +kernel
theorem dX9_mostGained_58 : decode cX9_mostGained 58 = .ok (.imul, 1) := by decide +kernel
theorem dX9_mostGained_59 : decode cX9_mostGained 59 = .ok (.iload_n 3, 1) := by decide +kernel
theorem dX9_mostGained_60 : decode cX9_mostGained 60 = .ok (.aload_n 0, 1) := by decide +kernel
theorem dX9_mostGained_61 : decode cX9_mostGained 61 = .ok (.getfield 50, 3) := by decide +kernel
theorem dX9_mostGained_64 : decode cX9_mostGained 64 = .ok (.imul, 1) := by decide +kernel
theorem dX9_mostGained_65 : decode cX9_mostGained 65 = .ok (.if_icmp .le 15, 3) := by decide +kernel
theorem dX9_mostGained_68 : decode cX9_mostGained 68 = .ok (.iload 5, 2) := by decide +kernel
theorem dX9_mostGained_70 : decode cX9_mostGained 70 = .ok (.istore_n 2, 1) := by decide +kernel
theorem dX9_mostGained_71 : decode cX9_mostGained 71 = .ok (.iload 6, 2) := by decide +kernel
theorem dX9_mostGained_73 : decode cX9_mostGained 73 = .ok (.istore_n 3, 1) := by decide +kernel
theorem dX9_mostGained_74 : decode cX9_mostGained 74 = .ok (.aload_n 0, 1) := by decide +kernel
theorem dX9_mostGained_75 : decode cX9_mostGained 75 = .ok (.getfield 50, 3) := by decide +kernel
theorem dX9_mostGained_78 : decode cX9_mostGained 78 = .ok (.istore 4, 2) := by decide +kernel
theorem dX9_mostGained_80 : decode cX9_mostGained 80 = .ok (.iinc 5 1, 3) := by decide +kernel
theorem dX9_mostGained_83 : decode cX9_mostGained 83 = .ok (.goto (-60), 3) := by decide +kernel
theorem dX9_mostGained_86 : decode cX9_mostGained 86 = .ok (.aload_n 0, 1) := by decide +kernel
theorem dX9_mostGained_87 : decode cX9_mostGained 87 = .ok (.iload_n 3, 1) := by decide +kernel
theorem dX9_mostGained_88 : decode cX9_mostGained 88 = .ok (.iload 4, 2) := by decide +kernel
theorem dX9_mostGained_90 : decode cX9_mostGained 90 = .ok (.invokevirtual 88, 3) := by decide +kernel
theorem dX9_mostGained_93 : decode cX9_mostGained 93 = .ok (.iload_n 1, 1) := by decide +kernel
theorem dX9_mostGained_94 : decode cX9_mostGained 94 = .ok (.ifCond .ne 7, 3) := by decide +kernel
theorem dX9_mostGained_97 : decode cX9_mostGained 97 = .ok (.iload_n 2, 1) := by decide +kernel
theorem dX9_mostGained_98 : decode cX9_mostGained 98 = .ok (.goto 19, 3) := by decide +kernel
theorem dX9_mostGained_101 : decode cX9_mostGained 101 = .ok (.iload_n 1, 1) := by decide +kernel
theorem dX9_mostGained_102 : decode cX9_mostGained 102 = .ok (.iconst 1, 1) := by decide +kernel
theorem dX9_mostGained_103 : decode cX9_mostGained 103 = .ok (.if_icmp .ne 10, 3) := by decide +kernel
theorem dX9_mostGained_106 : decode cX9_mostGained 106 = .ok (.aload_n 0, 1) := by decide +kernel
theorem dX9_mostGained_107 : decode cX9_mostGained 107 = .ok (.getfield 47, 3) := by decide +kernel
theorem dX9_mostGained_110 : decode cX9_mostGained 110 = .ok (.goto 7, 3) := by decide +kernel
theorem dX9_mostGained_113 : decode cX9_mostGained 113 = .ok (.aload_n 0, 1) := by decide +kernel
theorem dX9_mostGained_114 : decode cX9_mostGained 114 = .ok (.getfield 50, 3) := by decide +kernel
theorem dX9_mostGained_117 : decode cX9_mostGained 117 = .ok (.ireturn, 1) := by decide +kernel
theorem dX9_put_0 : decode cX9_put 0 = .ok (.iconst 0, 1) := by decide +kernel
theorem dX9_put_1 : decode cX9_put 1 = .ok (.istore_n 3, 1) := by decide +kernel
theorem dX9_put_2 : decode cX9_put 2 = .ok (.lload_n 1, 1) := by decide +kernel
theorem dX9_put_3 : decode cX9_put 3 = .ok (.lstore 4, 2) := by decide +kernel
theorem dX9_put_5 : decode cX9_put 5 = .ok (.iconst 1, 1) := by decide +kernel
theorem dX9_put_6 : decode cX9_put 6 = .ok (.istore 6, 2) := by decide +kernel
theorem dX9_put_8 : decode cX9_put 8 = .ok (.iload_n 3, 1) := by decide +kernel
theorem dX9_put_9 : decode cX9_put 9 = .ok (.bipush 8, 2) := by decide +kernel
theorem dX9_put_11 : decode cX9_put 11 = .ok (.if_icmp .ge 56, 3) := by decide +kernel
theorem dX9_put_14 : decode cX9_put 14 = .ok (.lload 4, 2) := by decide +kernel
theorem dX9_put_16 : decode cX9_put 16 = .ok (.ldc2_w 153, 3) := by decide +kernel
theorem dX9_put_19 : decode cX9_put 19 = .ok (.land, 1) := by decide +kernel
theorem dX9_put_20 : decode cX9_put 20 = .ok (.lconst 0, 1) := by decide +kernel
theorem dX9_put_21 : decode cX9_put 21 = .ok (.lcmp, 1) := by decide +kernel
theorem dX9_put_22 : decode cX9_put 22 = .ok (.ifCond .eq 45, 3) := by decide +kernel
theorem dX9_put_25 : decode cX9_put 25 = .ok (.iload 6, 2) := by decide +kernel
theorem dX9_put_27 : decode cX9_put 27 = .ok (.ifCond .eq 24, 3) := by decide +kernel
theorem dX9_put_30 : decode cX9_put 30 = .ok (.lload 4, 2) := by decide +kernel
theorem dX9_put_32 : decode cX9_put 32 = .ok (.ldc2_w 153, 3) := by decide +kernel
theorem dX9_put_35 : decode cX9_put 35 = .ok (.land, 1) := by decide +kernel
theorem dX9_put_36 : decode cX9_put 36 = .ok (.l2i, 1) := by decide +kernel
theorem dX9_put_37 : decode cX9_put 37 = .ok (.bipush 33, 2) := by decide +kernel
theorem dX9_put_39 : decode cX9_put 39 = .ok (.bipush 126, 2) := by decide +kernel
theorem dX9_put_41 : decode cX9_put 41 = .ok (.invokestatic 53, 3) := by decide +kernel
theorem dX9_put_44 : decode cX9_put 44 = .ok (.ifCond .eq 7, 3) := by decide +kernel
theorem dX9_put_47 : decode cX9_put 47 = .ok (.iconst 1, 1) := by decide +kernel
theorem dX9_put_48 : decode cX9_put 48 = .ok (.goto 4, 3) := by decide +kernel
theorem dX9_put_51 : decode cX9_put 51 = .ok (.iconst 0, 1) := by decide +kernel
theorem dX9_put_52 : decode cX9_put 52 = .ok (.istore 6, 2) := by decide +kernel
theorem dX9_put_54 : decode cX9_put 54 = .ok (.lload 4, 2) := by decide +kernel
theorem dX9_put_56 : decode cX9_put 56 = .ok (.bipush 8, 2) := by decide +kernel
theorem dX9_put_58 : decode cX9_put 58 = .ok (.lushr, 1) := by decide +kernel
theorem dX9_put_59 : decode cX9_put 59 = .ok (.lstore 4, 2) := by decide +kernel
theorem dX9_put_61 : decode cX9_put 61 = .ok (.iinc 3 1, 3) := by decide +kernel
theorem dX9_put_64 : decode cX9_put 64 = .ok (.goto (-56), 3) := by decide +kernel
theorem dX9_put_67 : decode cX9_put 67 = .ok (.iload_n 3, 1) := by decide +kernel
theorem dX9_put_68 : decode cX9_put 68 = .ok (.ifCond .eq 15, 3) := by decide +kernel
theorem dX9_put_71 : decode cX9_put 71 = .ok (.iload 6, 2) := by decide +kernel
theorem dX9_put_73 : decode cX9_put 73 = .ok (.ifCond .eq 10, 3) := by decide +kernel
theorem dX9_put_76 : decode cX9_put 76 = .ok (.lload 4, 2) := by decide +kernel
theorem dX9_put_78 : decode cX9_put 78 = .ok (.lconst 0, 1) := by decide +kernel
theorem dX9_put_79 : decode cX9_put 79 = .ok (.lcmp, 1) := by decide +kernel
theorem dX9_put_80 : decode cX9_put 80 = .ok (.ifCond .eq 6, 3) := by decide +kernel
theorem dX9_put_83 : decode cX9_put 83 = .ok (.bipush (-2), 2) := by decide +kernel
theorem dX9_put_85 : decode cX9_put 85 = .ok (.ireturn, 1) := by decide +kernel
theorem dX9_put_86 : decode cX9_put 86 = .ok (.aload_n 0, 1) := by decide +kernel
theorem dX9_put_87 : decode cX9_put 87 = .ok (.getfield 150, 3) := by decide +kernel
theorem dX9_put_90 : decode cX9_put 90 = .ok (.iload_n 3, 1) := by decide +kernel
theorem dX9_put_91 : decode cX9_put 91 = .ok (.iadd, 1) := by decide +kernel
theorem dX9_put_92 : decode cX9_put 92 = .ok (.bipush 80, 2) := by decide +kernel
theorem dX9_put_94 : decode cX9_put 94 = .ok (.if_icmp .le 6, 3) := by decide +kernel
theorem dX9_put_97 : decode cX9_put 97 = .ok (.bipush (-4), 2) := by decide +kernel
theorem dX9_put_99 : decode cX9_put 99 = .ok (.ireturn, 1) := by decide +kernel
theorem dX9_put_100 : decode cX9_put 100 = .ok (.iload_n 3, 1) := by decide +kernel
theorem dX9_put_101 : decode cX9_put 101 = .ok (.iconst 1, 1) := by decide +kernel
theorem dX9_put_102 : decode cX9_put 102 = .ok (.isub, 1) := by decide +kernel
theorem dX9_put_103 : decode cX9_put 103 = .ok (.istore 7, 2) := by decide +kernel
theorem dX9_put_105 : decode cX9_put 105 = .ok (.iload 7, 2) := by decide +kernel
theorem dX9_put_107 : decode cX9_put 107 = .ok (.ifCond .lt 40, 3) := by decide +kernel
theorem dX9_put_110 : decode cX9_put 110 = .ok (.aload_n 0, 1) := by decide +kernel
theorem dX9_put_111 : decode cX9_put 111 = .ok (.getfield 22, 3) := by decide +kernel
theorem dX9_put_114 : decode cX9_put 114 = .ok (.aload_n 0, 1) := by decide +kernel
theorem dX9_put_115 : decode cX9_put 115 = .ok (.getfield 150, 3) := by decide +kernel
theorem dX9_put_118 : decode cX9_put 118 = .ok (.lload_n 1, 1) := by decide +kernel
theorem dX9_put_119 : decode cX9_put 119 = .ok (.bipush 8, 2) := by decide +kernel
theorem dX9_put_121 : decode cX9_put 121 = .ok (.iload 7, 2) := by decide +kernel
theorem dX9_put_123 : decode cX9_put 123 = .ok (.imul, 1) := by decide +kernel
theorem dX9_put_124 : decode cX9_put 124 = .ok (.lushr, 1) := by decide +kernel
theorem dX9_put_125 : decode cX9_put 125 = .ok (.ldc2_w 153, 3) := by decide +kernel
theorem dX9_put_128 : decode cX9_put 128 = .ok (.land, 1) := by decide +kernel
theorem dX9_put_129 : decode cX9_put 129 = .ok (.l2i, 1) := by decide +kernel
theorem dX9_put_130 : decode cX9_put 130 = .ok (.iastore, 1) := by decide +kernel
theorem dX9_put_131 : decode cX9_put 131 = .ok (.aload_n 0, 1) := by decide +kernel
theorem dX9_put_132 : decode cX9_put 132 = .ok (.dup, 1) := by decide +kernel
theorem dX9_put_133 : decode cX9_put 133 = .ok (.getfield 150, 3) := by decide +kernel
theorem dX9_put_136 : decode cX9_put 136 = .ok (.iconst 1, 1) := by decide +kernel
theorem dX9_put_137 : decode cX9_put 137 = .ok (.iadd, 1) := by decide +kernel
theorem dX9_put_138 : decode cX9_put 138 = .ok (.putfield 150, 3) := by decide +kernel
theorem dX9_put_141 : decode cX9_put 141 = .ok (.iinc 7 (-1), 3) := by decide +kernel
theorem dX9_put_144 : decode cX9_put 144 = .ok (.goto (-39), 3) := by decide +kernel
theorem dX9_put_147 : decode cX9_put 147 = .ok (.aload_n 0, 1) := by decide +kernel
theorem dX9_put_148 : decode cX9_put 148 = .ok (.getfield 150, 3) := by decide +kernel
theorem dX9_put_151 : decode cX9_put 151 = .ok (.ireturn, 1) := by decide +kernel
theorem dX9_wipe_0 : decode cX9_wipe 0 = .ok (.aload_n 0, 1) := by decide +kernel
theorem dX9_wipe_1 : decode cX9_wipe 1 = .ok (.getfield 150, 3) := by decide +kernel
theorem dX9_wipe_4 : decode cX9_wipe 4 = .ok (.istore_n 1, 1) := by decide +kernel
theorem dX9_wipe_5 : decode cX9_wipe 5 = .ok (.aload_n 0, 1) := by decide +kernel
theorem dX9_wipe_6 : decode cX9_wipe 6 = .ok (.iconst 0, 1) := by decide +kernel
theorem dX9_wipe_7 : decode cX9_wipe 7 = .ok (.putfield 150, 3) := by decide +kernel
theorem dX9_wipe_10 : decode cX9_wipe 10 = .ok (.iload_n 1, 1) := by decide +kernel
theorem dX9_wipe_11 : decode cX9_wipe 11 = .ok (.ireturn, 1) := by decide +kernel
theorem dX9_character_0 : decode cX9_character 0 = .ok (.iload_n 1, 1) := by decide +kernel
theorem dX9_character_1 : decode cX9_character 1 = .ok (.aload_n 0, 1) := by decide +kernel
theorem dX9_character_2 : decode cX9_character 2 = .ok (.getfield 150, 3) := by decide +kernel
theorem dX9_character_5 : decode cX9_character 5 = .ok (.if_icmp .ge 12, 3) := by decide +kernel
theorem dX9_character_8 : decode cX9_character 8 = .ok (.aload_n 0, 1) := by decide +kernel
theorem dX9_character_9 : decode cX9_character 9 = .ok (.getfield 22, 3) := by decide +kernel
theorem dX9_character_12 : decode cX9_character 12 = .ok (.iload_n 1, 1) := by decide +kernel
theorem dX9_character_13 : decode cX9_character 13 = .ok (.iaload, 1) := by decide +kernel
theorem dX9_character_14 : decode cX9_character 14 = .ok (.goto 4, 3) := by decide +kernel
theorem dX9_character_17 : decode cX9_character 17 = .ok (.iconst (-1), 1) := by decide +kernel
theorem dX9_character_18 : decode cX9_character 18 = .ok (.ireturn, 1) := by decide +kernel
theorem dX9_isNext_0 : decode cX9_isNext 0 = .ok (.aload_n 0, 1) := by decide +kernel
theorem dX9_isNext_1 : decode cX9_isNext 1 = .ok (.aload_n 0, 1) := by decide +kernel
theorem dX9_isNext_2 : decode cX9_isNext 2 = .ok (.getfield 155, 3) := by decide +kernel
theorem dX9_isNext_5 : decode cX9_isNext 5 = .ok (.invokevirtual 158, 3) := by decide +kernel
theorem dX9_isNext_8 : decode cX9_isNext 8 = .ok (.iload_n 1, 1) := by decide +kernel
theorem dX9_isNext_9 : decode cX9_isNext 9 = .ok (.if_icmp .ne 7, 3) := by decide +kernel
theorem dX9_isNext_12 : decode cX9_isNext 12 = .ok (.iconst 1, 1) := by decide +kernel
theorem dX9_isNext_13 : decode cX9_isNext 13 = .ok (.goto 4, 3) := by decide +kernel
theorem dX9_isNext_16 : decode cX9_isNext 16 = .ok (.iconst 0, 1) := by decide +kernel
theorem dX9_isNext_17 : decode cX9_isNext 17 = .ok (.istore_n 2, 1) := by decide +kernel
theorem dX9_isNext_18 : decode cX9_isNext 18 = .ok (.aload_n 0, 1) := by decide +kernel
theorem dX9_isNext_19 : decode cX9_isNext 19 = .ok (.dup, 1) := by decide +kernel
theorem dX9_isNext_20 : decode cX9_isNext 20 = .ok (.getfield 155, 3) := by decide +kernel
theorem dX9_isNext_23 : decode cX9_isNext 23 = .ok (.iload_n 2, 1) := by decide +kernel
theorem dX9_isNext_24 : decode cX9_isNext 24 = .ok (.ifCond .eq 7, 3) := by decide +kernel
theorem dX9_isNext_27 : decode cX9_isNext 27 = .ok (.iconst 1, 1) := by decide +kernel
theorem dX9_isNext_28 : decode cX9_isNext 28 = .ok (.goto 4, 3) := by decide +kernel
theorem dX9_isNext_31 : decode cX9_isNext 31 = .ok (.iconst 0, 1) := by decide +kernel
theorem dX9_isNext_32 : decode cX9_isNext 32 = .ok (.iadd, 1) := by decide +kernel
theorem dX9_isNext_33 : decode cX9_isNext 33 = .ok (.putfield 155, 3) := by decide +kernel
theorem dX9_isNext_36 : decode cX9_isNext 36 = .ok (.iload_n 2, 1) := by decide +kernel
theorem dX9_isNext_37 : decode cX9_isNext 37 = .ok (.ireturn, 1) := by decide +kernel
theorem dX9_takeDigit_0 : decode cX9_takeDigit 0 = .ok (.aload_n 0, 1) := by decide +kernel
theorem dX9_takeDigit_1 : decode cX9_takeDigit 1 = .ok (.aload_n 0, 1) := by decide +kernel
theorem dX9_takeDigit_2 : decode cX9_takeDigit 2 = .ok (.getfield 155, 3) := by decide +kernel
theorem dX9_takeDigit_5 : decode cX9_takeDigit 5 = .ok (.invokevirtual 158, 3) := by decide +kernel
theorem dX9_takeDigit_8 : decode cX9_takeDigit 8 = .ok (.bipush 48, 2) := by decide +kernel
theorem dX9_takeDigit_10 : decode cX9_takeDigit 10 = .ok (.isub, 1) := by decide +kernel
theorem dX9_takeDigit_11 : decode cX9_takeDigit 11 = .ok (.istore_n 2, 1) := by decide +kernel
theorem dX9_takeDigit_12 : decode cX9_takeDigit 12 = .ok (.iload_n 2, 1) := by decide +kernel
theorem dX9_takeDigit_13 : decode cX9_takeDigit 13 = .ok (.iconst 0, 1) := by decide +kernel
theorem dX9_takeDigit_14 : decode cX9_takeDigit 14 = .ok (.iload_n 1, 1) := by decide +kernel
theorem dX9_takeDigit_15 : decode cX9_takeDigit 15 = .ok (.invokestatic 53, 3) := by decide +kernel
theorem dX9_takeDigit_18 : decode cX9_takeDigit 18 = .ok (.ifCond .ne 5, 3) := by decide +kernel
theorem dX9_takeDigit_21 : decode cX9_takeDigit 21 = .ok (.iconst (-1), 1) := by decide +kernel
theorem dX9_takeDigit_22 : decode cX9_takeDigit 22 = .ok (.ireturn, 1) := by decide +kernel
theorem dX9_takeDigit_23 : decode cX9_takeDigit 23 = .ok (.aload_n 0, 1) := by decide +kernel
theorem dX9_takeDigit_24 : decode cX9_takeDigit 24 = .ok (.dup, 1) := by decide +kernel
theorem dX9_takeDigit_25 : decode cX9_takeDigit 25 = .ok (.getfield 155, 3) := by decide +kernel
theorem dX9_takeDigit_28 : decode cX9_takeDigit 28 = .ok (.iconst 1, 1) := by decide +kernel
theorem dX9_takeDigit_29 : decode cX9_takeDigit 29 = .ok (.iadd, 1) := by decide +kernel
theorem dX9_takeDigit_30 : decode cX9_takeDigit 30 = .ok (.putfield 155, 3) := by decide +kernel
theorem dX9_takeDigit_33 : decode cX9_takeDigit 33 = .ok (.iload_n 2, 1) := by decide +kernel
theorem dX9_takeDigit_34 : decode cX9_takeDigit 34 = .ok (.ireturn, 1) := by decide +kernel
theorem dX9_takeNumber_0 : decode cX9_takeNumber 0 = .ok (.aload_n 0, 1) := by decide +kernel
theorem dX9_takeNumber_1 : decode cX9_takeNumber 1 = .ok (.bipush 9, 2) := by decide +kernel
theorem dX9_takeNumber_3 : decode cX9_takeNumber 3 = .ok (.invokevirtual 161, 3) := by decide +kernel
theorem dX9_takeNumber_6 : decode cX9_takeNumber 6 = .ok (.istore_n 1, 1) := by decide +kernel
theorem dX9_takeNumber_7 : decode cX9_takeNumber 7 = .ok (.iload_n 1, 1) := by decide +kernel
theorem dX9_takeNumber_8 : decode cX9_takeNumber 8 = .ok (.ifCond .le 42, 3) := by decide +kernel
theorem dX9_takeNumber_11 : decode cX9_takeNumber 11 = .ok (.iload_n 1, 1) := by decide +kernel
theorem dX9_takeNumber_12 : decode cX9_takeNumber 12 = .ok (.bipush 100, 2) := by decide +kernel
theorem dX9_takeNumber_14 : decode cX9_takeNumber 14 = .ok (.if_icmp .ge 36, 3) := by decide +kernel
theorem dX9_takeNumber_17 : decode cX9_takeNumber 17 = .ok (.aload_n 0, 1) := by decide +kernel
theorem dX9_takeNumber_18 : decode cX9_takeNumber 18 = .ok (.aload_n 0, 1) := by decide +kernel
theorem dX9_takeNumber_19 : decode cX9_takeNumber 19 = .ok (.getfield 155, 3) := by decide +kernel
theorem dX9_takeNumber_22 : decode cX9_takeNumber 22 = .ok (.invokevirtual 158, 3) := by decide +kernel
theorem dX9_takeNumber_25 : decode cX9_takeNumber 25 = .ok (.bipush 48, 2) := by decide +kernel
theorem dX9_takeNumber_27 : decode cX9_takeNumber 27 = .ok (.bipush 57, 2) := by decide +kernel
theorem dX9_takeNumber_29 : decode cX9_takeNumber 29 = .ok (.invokestatic 53, 3) := by decide +kernel
theorem dX9_takeNumber_32 : decode cX9_takeNumber 32 = .ok (.ifCond .eq 18, 3) := by decide +kernel
theorem dX9_takeNumber_35 : decode cX9_takeNumber 35 = .ok (.bipush 10, 2) := by decide +kernel
theorem dX9_takeNumber_37 : decode cX9_takeNumber 37 = .ok (.iload_n 1, 1) := by decide +kernel
theorem dX9_takeNumber_38 : decode cX9_takeNumber 38 = .ok (.imul, 1) := by decide +kernel
theorem dX9_takeNumber_39 : decode cX9_takeNumber 39 = .ok (.aload_n 0, 1) := by decide +kernel
theorem dX9_takeNumber_40 : decode cX9_takeNumber 40 = .ok (.bipush 9, 2) := by decide +kernel
theorem dX9_takeNumber_42 : decode cX9_takeNumber 42 = .ok (.invokevirtual 161, 3) := by decide +kernel
theorem dX9_takeNumber_45 : decode cX9_takeNumber 45 = .ok (.iadd, 1) := by decide +kernel
theorem dX9_takeNumber_46 : decode cX9_takeNumber 46 = .ok (.istore_n 1, 1) := by decide +kernel
theorem dX9_takeNumber_47 : decode cX9_takeNumber 47 = .ok (.goto (-40), 3) := by decide +kernel
theorem dX9_takeNumber_50 : decode cX9_takeNumber 50 = .ok (.iload_n 1, 1) := by decide +kernel
theorem dX9_takeNumber_51 : decode cX9_takeNumber 51 = .ok (.ireturn, 1) := by decide +kernel
theorem dX9_readsReceiver_0 : decode cX9_readsReceiver 0 = .ok (.aload_n 0, 1) := by decide +kernel
theorem dX9_readsReceiver_1 : decode cX9_readsReceiver 1 = .ok (.aload_n 0, 1) := by decide +kernel
theorem dX9_readsReceiver_2 : decode cX9_readsReceiver 2 = .ok (.invokevirtual 164, 3) := by decide +kernel
theorem dX9_readsReceiver_5 : decode cX9_readsReceiver 5 = .ok (.putfield 167, 3) := by decide +kernel
theorem dX9_readsReceiver_8 : decode cX9_readsReceiver 8 = .ok (.aload_n 0, 1) := by decide +kernel
theorem dX9_readsReceiver_9 : decode cX9_readsReceiver 9 = .ok (.aload_n 0, 1) := by decide +kernel
theorem dX9_readsReceiver_10 : decode cX9_readsReceiver 10 = .ok (.getfield 167, 3) := by decide +kernel
theorem dX9_readsReceiver_13 : decode cX9_readsReceiver 13 = .ok (.ifCond .lt 19, 3) := by decide +kernel
theorem dX9_readsReceiver_16 : decode cX9_readsReceiver 16 = .ok (.aload_n 0, 1) := by decide +kernel
theorem dX9_readsReceiver_17 : decode cX9_readsReceiver 17 = .ok (.bipush 44, 2) := by decide +kernel
theorem dX9_readsReceiver_19 : decode cX9_readsReceiver 19 = .ok (.invokevirtual 170, 3) := by decide +kernel
theorem dX9_readsReceiver_22 : decode cX9_readsReceiver 22 = .ok (.ifCond .eq 10, 3) := by decide +kernel
theorem dX9_readsReceiver_25 : decode cX9_readsReceiver 25 = .ok (.aload_n 0, 1) := by decide +kernel
theorem dX9_readsReceiver_26 : decode cX9_readsReceiver 26 = .ok (.invokevirtual 164, 3) := by decide +kernel
theorem dX9_readsReceiver_29 : decode cX9_readsReceiver 29 = .ok (.goto 4, 3) := by decide +kernel
theorem dX9_readsReceiver_32 : decode cX9_readsReceiver 32 = .ok (.iconst (-1), 1) := by decide +kernel
theorem dX9_readsReceiver_33 : decode cX9_readsReceiver 33 = .ok (.putfield 173, 3) := by decide +kernel
theorem dX9_readsReceiver_36 : decode cX9_readsReceiver 36 = .ok (.aload_n 0, 1) := by decide +kernel
theorem dX9_readsReceiver_37 : decode cX9_readsReceiver 37 = .ok (.aload_n 0, 1) := by decide +kernel
theorem dX9_readsReceiver_38 : decode cX9_readsReceiver 38 = .ok (.getfield 173, 3) := by decide +kernel
theorem dX9_readsReceiver_41 : decode cX9_readsReceiver 41 = .ok (.ifCond .lt 19, 3) := by decide +kernel
theorem dX9_readsReceiver_44 : decode cX9_readsReceiver 44 = .ok (.aload_n 0, 1) := by decide +kernel
theorem dX9_readsReceiver_45 : decode cX9_readsReceiver 45 = .ok (.bipush 36, 2) := by decide +kernel
theorem dX9_readsReceiver_47 : decode cX9_readsReceiver 47 = .ok (.invokevirtual 170, 3) := by decide +kernel
theorem dX9_readsReceiver_50 : decode cX9_readsReceiver 50 = .ok (.ifCond .eq 10, 3) := by decide +kernel
theorem dX9_readsReceiver_53 : decode cX9_readsReceiver 53 = .ok (.aload_n 0, 1) := by decide +kernel
theorem dX9_readsReceiver_54 : decode cX9_readsReceiver 54 = .ok (.invokevirtual 164, 3) := by decide +kernel
theorem dX9_readsReceiver_57 : decode cX9_readsReceiver 57 = .ok (.goto 4, 3) := by decide +kernel
theorem dX9_readsReceiver_60 : decode cX9_readsReceiver 60 = .ok (.iconst (-1), 1) := by decide +kernel
theorem dX9_readsReceiver_61 : decode cX9_readsReceiver 61 = .ok (.putfield 176, 3) := by decide +kernel
theorem dX9_readsReceiver_64 : decode cX9_readsReceiver 64 = .ok (.aload_n 0, 1) := by decide +kernel
theorem dX9_readsReceiver_65 : decode cX9_readsReceiver 65 = .ok (.iconst 0, 1) := by decide +kernel
theorem dX9_readsReceiver_66 : decode cX9_readsReceiver 66 = .ok (.putfield 179, 3) := by decide +kernel
theorem dX9_readsReceiver_69 : decode cX9_readsReceiver 69 = .ok (.aload_n 0, 1) := by decide +kernel
theorem dX9_readsReceiver_70 : decode cX9_readsReceiver 70 = .ok (.getfield 176, 3) := by decide +kernel
theorem dX9_readsReceiver_73 : decode cX9_readsReceiver 73 = .ok (.ifCond .lt 48, 3) := by decide +kernel
theorem dX9_readsReceiver_76 : decode cX9_readsReceiver 76 = .ok (.aload_n 0, 1) := by decide +kernel
theorem dX9_readsReceiver_77 : decode cX9_readsReceiver 77 = .ok (.bipush 33, 2) := by decide +kernel
theorem dX9_readsReceiver_79 : decode cX9_readsReceiver 79 = .ok (.invokevirtual 170, 3) := by decide +kernel
theorem dX9_readsReceiver_82 : decode cX9_readsReceiver 82 = .ok (.ifCond .eq 39, 3) := by decide +kernel
theorem dX9_readsReceiver_85 : decode cX9_readsReceiver 85 = .ok (.aload_n 0, 1) := by decide +kernel
theorem dX9_readsReceiver_86 : decode cX9_readsReceiver 86 = .ok (.bipush 45, 2) := by decide +kernel
theorem dX9_readsReceiver_88 : decode cX9_readsReceiver 88 = .ok (.invokevirtual 170, 3) := by decide +kernel
theorem dX9_readsReceiver_91 : decode cX9_readsReceiver 91 = .ok (.istore_n 1, 1) := by decide +kernel
theorem dX9_readsReceiver_92 : decode cX9_readsReceiver 92 = .ok (.aload_n 0, 1) := by decide +kernel
theorem dX9_readsReceiver_93 : decode cX9_readsReceiver 93 = .ok (.invokevirtual 164, 3) := by decide +kernel
theorem dX9_readsReceiver_96 : decode cX9_readsReceiver 96 = .ok (.istore_n 2, 1) := by decide +kernel
theorem dX9_readsReceiver_97 : decode cX9_readsReceiver 97 = .ok (.aload_n 0, 1) := by decide +kernel
theorem dX9_readsReceiver_98 : decode cX9_readsReceiver 98 = .ok (.iload_n 1, 1) := by decide +kernel
theorem dX9_readsReceiver_99 : decode cX9_readsReceiver 99 = .ok (.ifCond .eq 8, 3) := by decide +kernel
theorem dX9_readsReceiver_102 : decode cX9_readsReceiver 102 = .ok (.iload_n 2, 1) := by decide +kernel
theorem dX9_readsReceiver_103 : decode cX9_readsReceiver 103 = .ok (.ineg, 1) := by decide +kernel
theorem dX9_readsReceiver_104 : decode cX9_readsReceiver 104 = .ok (.goto 4, 3) := by decide +kernel
theorem dX9_readsReceiver_107 : decode cX9_readsReceiver 107 = .ok (.iload_n 2, 1) := by decide +kernel
theorem dX9_readsReceiver_108 : decode cX9_readsReceiver 108 = .ok (.putfield 179, 3) := by decide +kernel
theorem dX9_readsReceiver_111 : decode cX9_readsReceiver 111 = .ok (.iload_n 2, 1) := by decide +kernel
theorem dX9_readsReceiver_112 : decode cX9_readsReceiver 112 = .ok (.ifCond .lt 7, 3) := by decide +kernel
theorem dX9_readsReceiver_115 : decode cX9_readsReceiver 115 = .ok (.iconst 1, 1) := by decide +kernel
theorem dX9_readsReceiver_116 : decode cX9_readsReceiver 116 = .ok (.goto 4, 3) := by decide +kernel
theorem dX9_readsReceiver_119 : decode cX9_readsReceiver 119 = .ok (.iconst 0, 1) := by decide +kernel
theorem dX9_readsReceiver_120 : decode cX9_readsReceiver 120 = .ok (.ireturn, 1) := by decide +kernel
theorem dX9_readsReceiver_121 : decode cX9_readsReceiver 121 = .ok (.aload_n 0, 1) := by decide +kernel
theorem dX9_readsReceiver_122 : decode cX9_readsReceiver 122 = .ok (.getfield 176, 3) := by decide +kernel
theorem dX9_readsReceiver_125 : decode cX9_readsReceiver 125 = .ok (.ifCond .lt 7, 3) := by decide +kernel
theorem dX9_readsReceiver_128 : decode cX9_readsReceiver 128 = .ok (.iconst 1, 1) := by decide +kernel
theorem dX9_readsReceiver_129 : decode cX9_readsReceiver 129 = .ok (.goto 4, 3) := by decide +kernel
theorem dX9_readsReceiver_132 : decode cX9_readsReceiver 132 = .ok (.iconst 0, 1) := by decide +kernel
theorem dX9_readsReceiver_133 : decode cX9_readsReceiver 133 = .ok (.ireturn, 1) := by decide +kernel
theorem dX9_readsParts_0 : decode cX9_readsParts 0 = .ok (.aload_n 0, 1) := by decide +kernel
theorem dX9_readsParts_1 : decode cX9_readsParts 1 = .ok (.iconst 0, 1) := by decide +kernel
theorem dX9_readsParts_2 : decode cX9_readsParts 2 = .ok (.putfield 72, 3) := by decide +kernel
theorem dX9_readsParts_5 : decode cX9_readsParts 5 = .ok (.aload_n 0, 1) := by decide +kernel
theorem dX9_readsParts_6 : decode cX9_readsParts 6 = .ok (.iconst 0, 1) := by decide +kernel
theorem dX9_readsParts_7 : decode cX9_readsParts 7 = .ok (.putfield 167, 3) := by decide +kernel
theorem dX9_readsParts_10 : decode cX9_readsParts 10 = .ok (.iconst 1, 1) := by decide +kernel
theorem dX9_readsParts_11 : decode cX9_readsParts 11 = .ok (.istore_n 1, 1) := by decide +kernel
theorem dX9_readsParts_12 : decode cX9_readsParts 12 = .ok (.iconst 0, 1) := by decide +kernel
theorem dX9_readsParts_13 : decode cX9_readsParts 13 = .ok (.istore_n 2, 1) := by decide +kernel
theorem dX9_readsParts_14 : decode cX9_readsParts 14 = .ok (.iload_n 1, 1) := by decide +kernel
theorem dX9_readsParts_15 : decode cX9_readsParts 15 = .ok (.ifCond .eq 118, 3) := by decide +kernel
theorem dX9_readsParts_18 : decode cX9_readsParts 18 = .ok (.aload_n 0, 1) := by decide +kernel
theorem dX9_readsParts_19 : decode cX9_readsParts 19 = .ok (.invokevirtual 164, 3) := by decide +kernel
theorem dX9_readsParts_22 : decode cX9_readsParts 22 = .ok (.istore_n 3, 1) := by decide +kernel
theorem dX9_readsParts_23 : decode cX9_readsParts 23 = .ok (.iload_n 3, 1) := by decide +kernel
theorem dX9_readsParts_24 : decode cX9_readsParts 24 = .ok (.ifCond .lt 19, 3) := by decide +kernel
theorem dX9_readsParts_27 : decode cX9_readsParts 27 = .ok (.aload_n 0, 1) := by decide +kernel
theorem dX9_readsParts_28 : decode cX9_readsParts 28 = .ok (.bipush 64, 2) := by decide +kernel
theorem dX9_readsParts_30 : decode cX9_readsParts 30 = .ok (.invokevirtual 170, 3) := by decide +kernel
theorem dX9_readsParts_33 : decode cX9_readsParts 33 = .ok (.ifCond .eq 10, 3) := by decide +kernel
theorem dX9_readsParts_36 : decode cX9_readsParts 36 = .ok (.aload_n 0, 1) := by decide +kernel
theorem dX9_readsParts_37 : decode cX9_readsParts 37 = .ok (.invokevirtual 164, 3) := by decide +kernel
theorem dX9_readsParts_40 : decode cX9_readsParts 40 = .ok (.goto 4, 3) := by decide +kernel
theorem dX9_readsParts_43 : decode cX9_readsParts 43 = .ok (.iconst (-1), 1) := by decide +kernel
theorem dX9_readsParts_44 : decode cX9_readsParts 44 = .ok (.istore 4, 2) := by decide +kernel
theorem dX9_readsParts_46 : decode cX9_readsParts 46 = .ok (.iload 4, 2) := by decide +kernel
theorem dX9_readsParts_48 : decode cX9_readsParts 48 = .ok (.ifCond .ge 5, 3) := by decide +kernel
theorem dX9_readsParts_51 : decode cX9_readsParts 51 = .ok (.iconst 0, 1) := by decide +kernel
theorem dX9_readsParts_52 : decode cX9_readsParts 52 = .ok (.ireturn, 1) := by decide +kernel
theorem dX9_readsParts_53 : decode cX9_readsParts 53 = .ok (.iload_n 3, 1) := by decide +kernel
theorem dX9_readsParts_54 : decode cX9_readsParts 54 = .ok (.ifCond .le 15, 3) := by decide +kernel
theorem dX9_readsParts_57 : decode cX9_readsParts 57 = .ok (.iload 4, 2) := by decide +kernel
theorem dX9_readsParts_59 : decode cX9_readsParts 59 = .ok (.invokestatic 137, 3) := by decide +kernel
theorem dX9_readsParts_62 : decode cX9_readsParts 62 = .ok (.ifCond .eq 7, 3) := by decide +kernel
theorem dX9_readsParts_65 : decode cX9_readsParts 65 = .ok (.iconst 1, 1) := by decide +kernel
theorem dX9_readsParts_66 : decode cX9_readsParts 66 = .ok (.goto 4, 3) := by decide +kernel
theorem dX9_readsParts_69 : decode cX9_readsParts 69 = .ok (.iconst 0, 1) := by decide +kernel
theorem dX9_readsParts_70 : decode cX9_readsParts 70 = .ok (.istore 5, 2) := by decide +kernel
theorem dX9_readsParts_72 : decode cX9_readsParts 72 = .ok (.aload_n 0, 1) := by decide +kernel
theorem dX9_readsParts_73 : decode cX9_readsParts 73 = .ok (.dup, 1) := by decide +kernel
theorem dX9_readsParts_74 : decode cX9_readsParts 74 = .ok (.getfield 167, 3) := by decide +kernel
theorem dX9_readsParts_77 : decode cX9_readsParts 77 = .ok (.iload 5, 2) := by decide +kernel
theorem dX9_readsParts_79 : decode cX9_readsParts 79 = .ok (.ifCond .eq 7, 3) := by decide +kernel
theorem dX9_readsParts_82 : decode cX9_readsParts 82 = .ok (.iconst 0, 1) := by decide +kernel
theorem dX9_readsParts_83 : decode cX9_readsParts 83 = .ok (.goto 4, 3) := by decide +kernel
theorem dX9_readsParts_86 : decode cX9_readsParts 86 = .ok (.iconst 1, 1) := by decide +kernel
theorem dX9_readsParts_87 : decode cX9_readsParts 87 = .ok (.iadd, 1) := by decide +kernel
theorem dX9_readsParts_88 : decode cX9_readsParts 88 = .ok (.putfield 167, 3) := by decide +kernel
theorem dX9_readsParts_91 : decode cX9_readsParts 91 = .ok (.aload_n 0, 1) := by decide +kernel
theorem dX9_readsParts_92 : decode cX9_readsParts 92 = .ok (.iload 5, 2) := by decide +kernel
theorem dX9_readsParts_94 : decode cX9_readsParts 94 = .ok (.ifCond .eq 7, 3) := by decide +kernel
theorem dX9_readsParts_97 : decode cX9_readsParts 97 = .ok (.iload_n 3, 1) := by decide +kernel
theorem dX9_readsParts_98 : decode cX9_readsParts 98 = .ok (.goto 4, 3) := by decide +kernel
theorem dX9_readsParts_101 : decode cX9_readsParts 101 = .ok (.iconst 0, 1) := by decide +kernel
theorem dX9_readsParts_102 : decode cX9_readsParts 102 = .ok (.iload 4, 2) := by decide +kernel
theorem dX9_readsParts_104 : decode cX9_readsParts 104 = .ok (.invokevirtual 75, 3) := by decide +kernel
theorem dX9_readsParts_107 : decode cX9_readsParts 107 = .ok (.iload_n 2, 1) := by decide +kernel
theorem dX9_readsParts_108 : decode cX9_readsParts 108 = .ok (.iconst 5, 1) := by decide +kernel
theorem dX9_readsParts_109 : decode cX9_readsParts 109 = .ok (.if_icmp .ge 16, 3) := by decide +kernel
theorem dX9_readsParts_112 : decode cX9_readsParts 112 = .ok (.aload_n 0, 1) := by decide +kernel
theorem dX9_readsParts_113 : decode cX9_readsParts 113 = .ok (.bipush 44, 2) := by decide +kernel
theorem dX9_readsParts_115 : decode cX9_readsParts 115 = .ok (.invokevirtual 170, 3) := by decide +kernel
theorem dX9_readsParts_118 : decode cX9_readsParts 118 = .ok (.ifCond .eq 7, 3) := by decide +kernel
theorem dX9_readsParts_121 : decode cX9_readsParts 121 = .ok (.iconst 1, 1) := by decide +kernel
theorem dX9_readsParts_122 : decode cX9_readsParts 122 = .ok (.goto 4, 3) := by decide +kernel
theorem dX9_readsParts_125 : decode cX9_readsParts 125 = .ok (.iconst 0, 1) := by decide +kernel
theorem dX9_readsParts_126 : decode cX9_readsParts 126 = .ok (.istore_n 1, 1) := by decide +kernel
theorem dX9_readsParts_127 : decode cX9_readsParts 127 = .ok (.iinc 2 1, 3) := by decide +kernel
theorem dX9_readsParts_130 : decode cX9_readsParts 130 = .ok (.goto (-116), 3) := by decide +kernel
theorem dX9_readsParts_133 : decode cX9_readsParts 133 = .ok (.iconst 1, 1) := by decide +kernel
theorem dX9_readsParts_134 : decode cX9_readsParts 134 = .ok (.ireturn, 1) := by decide +kernel
theorem dX9_readsOrder_0 : decode cX9_readsOrder 0 = .ok (.aload_n 0, 1) := by decide +kernel
theorem dX9_readsOrder_1 : decode cX9_readsOrder 1 = .ok (.aload_n 0, 1) := by decide +kernel
theorem dX9_readsOrder_2 : decode cX9_readsOrder 2 = .ok (.aload_n 0, 1) := by decide +kernel
theorem dX9_readsOrder_3 : decode cX9_readsOrder 3 = .ok (.getfield 155, 3) := by decide +kernel
theorem dX9_readsOrder_6 : decode cX9_readsOrder 6 = .ok (.invokevirtual 158, 3) := by decide +kernel
theorem dX9_readsOrder_9 : decode cX9_readsOrder 9 = .ok (.putfield 182, 3) := by decide +kernel
theorem dX9_readsOrder_12 : decode cX9_readsOrder 12 = .ok (.aload_n 0, 1) := by decide +kernel
theorem dX9_readsOrder_13 : decode cX9_readsOrder 13 = .ok (.dup, 1) := by decide +kernel
theorem dX9_readsOrder_14 : decode cX9_readsOrder 14 = .ok (.getfield 155, 3) := by decide +kernel
theorem dX9_readsOrder_17 : decode cX9_readsOrder 17 = .ok (.iconst 1, 1) := by decide +kernel
theorem dX9_readsOrder_18 : decode cX9_readsOrder 18 = .ok (.iadd, 1) := by decide +kernel
theorem dX9_readsOrder_19 : decode cX9_readsOrder 19 = .ok (.putfield 155, 3) := by decide +kernel
theorem dX9_readsOrder_22 : decode cX9_readsOrder 22 = .ok (.aload_n 0, 1) := by decide +kernel
theorem dX9_readsOrder_23 : decode cX9_readsOrder 23 = .ok (.getfield 182, 3) := by decide +kernel
theorem dX9_readsOrder_26 : decode cX9_readsOrder 26 = .ok (.lookupswitch 105 #[(45, 55), (98, 103), (112, 77), (114, 50), (115, 98)], 50) := by decide +kernel
theorem dX9_readsOrder_76 : decode cX9_readsOrder 76 = .ok (.aload_n 0, 1) := by decide +kernel
theorem dX9_readsOrder_77 : decode cX9_readsOrder 77 = .ok (.invokevirtual 185, 3) := by decide +kernel
theorem dX9_readsOrder_80 : decode cX9_readsOrder 80 = .ok (.ireturn, 1) := by decide +kernel
theorem dX9_readsOrder_81 : decode cX9_readsOrder 81 = .ok (.aload_n 0, 1) := by decide +kernel
theorem dX9_readsOrder_82 : decode cX9_readsOrder 82 = .ok (.aload_n 0, 1) := by decide +kernel
theorem dX9_readsOrder_83 : decode cX9_readsOrder 83 = .ok (.iconst 4, 1) := by decide +kernel
theorem dX9_readsOrder_84 : decode cX9_readsOrder 84 = .ok (.invokevirtual 161, 3) := by decide +kernel
theorem dX9_readsOrder_87 : decode cX9_readsOrder 87 = .ok (.putfield 167, 3) := by decide +kernel
theorem dX9_readsOrder_90 : decode cX9_readsOrder 90 = .ok (.aload_n 0, 1) := by decide +kernel
theorem dX9_readsOrder_91 : decode cX9_readsOrder 91 = .ok (.getfield 167, 3) := by decide +kernel
theorem dX9_readsOrder_94 : decode cX9_readsOrder 94 = .ok (.ifCond .lt 7, 3) := by decide +kernel
theorem dX9_readsOrder_97 : decode cX9_readsOrder 97 = .ok (.iconst 1, 1) := by decide +kernel
theorem dX9_readsOrder_98 : decode cX9_readsOrder 98 = .ok (.goto 4, 3) := by decide +kernel
theorem dX9_readsOrder_101 : decode cX9_readsOrder 101 = .ok (.iconst 0, 1) := by decide +kernel
theorem dX9_readsOrder_102 : decode cX9_readsOrder 102 = .ok (.ireturn, 1) := by decide +kernel
theorem dX9_readsOrder_103 : decode cX9_readsOrder 103 = .ok (.aload_n 0, 1) := by decide +kernel
theorem dX9_readsOrder_104 : decode cX9_readsOrder 104 = .ok (.aload_n 0, 1) := by decide +kernel
theorem dX9_readsOrder_105 : decode cX9_readsOrder 105 = .ok (.invokevirtual 164, 3) := by decide +kernel
theorem dX9_readsOrder_108 : decode cX9_readsOrder 108 = .ok (.putfield 167, 3) := by decide +kernel
theorem dX9_readsOrder_111 : decode cX9_readsOrder 111 = .ok (.aload_n 0, 1) := by decide +kernel
theorem dX9_readsOrder_112 : decode cX9_readsOrder 112 = .ok (.getfield 167, 3) := by decide +kernel
theorem dX9_readsOrder_115 : decode cX9_readsOrder 115 = .ok (.ifCond .lt 7, 3) := by decide +kernel
theorem dX9_readsOrder_118 : decode cX9_readsOrder 118 = .ok (.iconst 1, 1) := by decide +kernel
theorem dX9_readsOrder_119 : decode cX9_readsOrder 119 = .ok (.goto 4, 3) := by decide +kernel
theorem dX9_readsOrder_122 : decode cX9_readsOrder 122 = .ok (.iconst 0, 1) := by decide +kernel
theorem dX9_readsOrder_123 : decode cX9_readsOrder 123 = .ok (.ireturn, 1) := by decide +kernel
theorem dX9_readsOrder_124 : decode cX9_readsOrder 124 = .ok (.aload_n 0, 1) := by decide +kernel
theorem dX9_readsOrder_125 : decode cX9_readsOrder 125 = .ok (.invokevirtual 188, 3) := by decide +kernel
theorem dX9_readsOrder_128 : decode cX9_readsOrder 128 = .ok (.ireturn, 1) := by decide +kernel
theorem dX9_readsOrder_129 : decode cX9_readsOrder 129 = .ok (.iconst 1, 1) := by decide +kernel
theorem dX9_readsOrder_130 : decode cX9_readsOrder 130 = .ok (.ireturn, 1) := by decide +kernel
theorem dX9_readsOrder_131 : decode cX9_readsOrder 131 = .ok (.aload_n 0, 1) := by decide +kernel
theorem dX9_readsOrder_132 : decode cX9_readsOrder 132 = .ok (.dup, 1) := by decide +kernel
theorem dX9_readsOrder_133 : decode cX9_readsOrder 133 = .ok (.getfield 155, 3) := by decide +kernel
theorem dX9_readsOrder_136 : decode cX9_readsOrder 136 = .ok (.iconst 1, 1) := by decide +kernel
theorem dX9_readsOrder_137 : decode cX9_readsOrder 137 = .ok (.isub, 1) := by decide +kernel
theorem dX9_readsOrder_138 : decode cX9_readsOrder 138 = .ok (.putfield 155, 3) := by decide +kernel
theorem dX9_readsOrder_141 : decode cX9_readsOrder 141 = .ok (.iconst 0, 1) := by decide +kernel
theorem dX9_readsOrder_142 : decode cX9_readsOrder 142 = .ok (.ireturn, 1) := by decide +kernel
theorem dX9_findFault_0 : decode cX9_findFault 0 = .ok (.aload_n 0, 1) := by decide +kernel
theorem dX9_findFault_1 : decode cX9_findFault 1 = .ok (.iconst 0, 1) := by decide +kernel
theorem dX9_findFault_2 : decode cX9_findFault 2 = .ok (.putfield 155, 3) := by decide +kernel
theorem dX9_findFault_5 : decode cX9_findFault 5 = .ok (.aload_n 0, 1) := by decide +kernel
theorem dX9_findFault_6 : decode cX9_findFault 6 = .ok (.invokevirtual 191, 3) := by decide +kernel
theorem dX9_findFault_9 : decode cX9_findFault 9 = .ok (.ifCond .ne 8, 3) := by decide +kernel
theorem dX9_findFault_12 : decode cX9_findFault 12 = .ok (.aload_n 0, 1) := by decide +kernel
theorem dX9_findFault_13 : decode cX9_findFault 13 = .ok (.getfield 155, 3) := by decide +kernel
theorem dX9_findFault_16 : decode cX9_findFault 16 = .ok (.ireturn, 1) := by decide +kernel
theorem dX9_findFault_17 : decode cX9_findFault 17 = .ok (.aload_n 0, 1) := by decide +kernel
theorem dX9_findFault_18 : decode cX9_findFault 18 = .ok (.getfield 155, 3) := by decide +kernel
theorem dX9_findFault_21 : decode cX9_findFault 21 = .ok (.aload_n 0, 1) := by decide +kernel
theorem dX9_findFault_22 : decode cX9_findFault 22 = .ok (.getfield 150, 3) := by decide +kernel
theorem dX9_findFault_25 : decode cX9_findFault 25 = .ok (.if_icmp .ne 6, 3) := by decide +kernel
theorem dX9_findFault_28 : decode cX9_findFault 28 = .ok (.bipush (-6), 2) := by decide +kernel
theorem dX9_findFault_30 : decode cX9_findFault 30 = .ok (.ireturn, 1) := by decide +kernel
theorem dX9_findFault_31 : decode cX9_findFault 31 = .ok (.aload_n 0, 1) := by decide +kernel
theorem dX9_findFault_32 : decode cX9_findFault 32 = .ok (.bipush 59, 2) := by decide +kernel
theorem dX9_findFault_34 : decode cX9_findFault 34 = .ok (.invokevirtual 170, 3) := by decide +kernel
theorem dX9_findFault_37 : decode cX9_findFault 37 = .ok (.ifCond .ne (-32), 3) := by decide +kernel
theorem dX9_findFault_40 : decode cX9_findFault 40 = .ok (.aload_n 0, 1) := by decide +kernel
theorem dX9_findFault_41 : decode cX9_findFault 41 = .ok (.getfield 155, 3) := by decide +kernel
theorem dX9_findFault_44 : decode cX9_findFault 44 = .ok (.ireturn, 1) := by decide +kernel
theorem dX9_fault_0 : decode cX9_fault 0 = .ok (.aload_n 0, 1) := by decide +kernel
theorem dX9_fault_1 : decode cX9_fault 1 = .ok (.invokevirtual 194, 3) := by decide +kernel
theorem dX9_fault_4 : decode cX9_fault 4 = .ok (.ireturn, 1) := by decide +kernel
theorem dX9_areAverage_0 : decode cX9_areAverage 0 = .ok (.iconst 0, 1) := by decide +kernel
theorem dX9_areAverage_1 : decode cX9_areAverage 1 = .ok (.istore_n 1, 1) := by decide +kernel
theorem dX9_areAverage_2 : decode cX9_areAverage 2 = .ok (.iconst 0, 1) := by decide +kernel
theorem dX9_areAverage_3 : decode cX9_areAverage 3 = .ok (.istore_n 2, 1) := by decide +kernel
theorem dX9_areAverage_4 : decode cX9_areAverage 4 = .ok (.iload_n 2, 1) := by decide +kernel
theorem dX9_areAverage_5 : decode cX9_areAverage 5 = .ok (.aload_n 0, 1) := by decide +kernel
theorem dX9_areAverage_6 : decode cX9_areAverage 6 = .ok (.getfield 72, 3) := by decide +kernel
theorem dX9_areAverage_9 : decode cX9_areAverage 9 = .ok (.if_icmp .ge 32, 3) := by decide +kernel
theorem dX9_areAverage_12 : decode cX9_areAverage 12 = .ok (.iload_n 1, 1) := by decide +kernel
theorem dX9_areAverage_13 : decode cX9_areAverage 13 = .ok (.aload_n 0, 1) := by decide +kernel
theorem dX9_areAverage_14 : decode cX9_areAverage 14 = .ok (.getfield 25, 3) := by decide +kernel
theorem dX9_areAverage_17 : decode cX9_areAverage 17 = .ok (.iload_n 2, 1) := by decide +kernel
theorem dX9_areAverage_18 : decode cX9_areAverage 18 = .ok (.iaload, 1) := by decide +kernel
theorem dX9_areAverage_19 : decode cX9_areAverage 19 = .ok (.aload_n 0, 1) := by decide +kernel
theorem dX9_areAverage_20 : decode cX9_areAverage 20 = .ok (.getfield 28, 3) := by decide +kernel
theorem dX9_areAverage_23 : decode cX9_areAverage 23 = .ok (.iload_n 2, 1) := by decide +kernel
theorem dX9_areAverage_24 : decode cX9_areAverage 24 = .ok (.iaload, 1) := by decide +kernel
theorem dX9_areAverage_25 : decode cX9_areAverage 25 = .ok (.aload_n 0, 1) := by decide +kernel
theorem dX9_areAverage_26 : decode cX9_areAverage 26 = .ok (.getfield 7, 3) := by decide +kernel
theorem dX9_areAverage_29 : decode cX9_areAverage 29 = .ok (.iconst 0, 1) := by decide +kernel
theorem dX9_areAverage_30 : decode cX9_areAverage 30 = .ok (.iaload, 1) := by decide +kernel
theorem dX9_areAverage_31 : decode cX9_areAverage 31 = .ok (.isub, 1) := by decide +kernel
theorem dX9_areAverage_32 : decode cX9_areAverage 32 = .ok (.imul, 1) := by decide +kernel
theorem dX9_areAverage_33 : decode cX9_areAverage 33 = .ok (.iadd, 1) := by decide +kernel
theorem dX9_areAverage_34 : decode cX9_areAverage 34 = .ok (.istore_n 1, 1) := by decide +kernel
theorem dX9_areAverage_35 : decode cX9_areAverage 35 = .ok (.iinc 2 1, 3) := by decide +kernel
theorem dX9_areAverage_38 : decode cX9_areAverage 38 = .ok (.goto (-34), 3) := by decide +kernel
theorem dX9_areAverage_41 : decode cX9_areAverage 41 = .ok (.iload_n 1, 1) := by decide +kernel
theorem dX9_areAverage_42 : decode cX9_areAverage 42 = .ok (.ifCond .ne 7, 3) := by decide +kernel
theorem dX9_areAverage_45 : decode cX9_areAverage 45 = .ok (.iconst 1, 1) := by decide +kernel
theorem dX9_areAverage_46 : decode cX9_areAverage 46 = .ok (.goto 4, 3) := by decide +kernel
theorem dX9_areAverage_49 : decode cX9_areAverage 49 = .ok (.iconst 0, 1) := by decide +kernel
theorem dX9_areAverage_50 : decode cX9_areAverage 50 = .ok (.ireturn, 1) := by decide +kernel
theorem dX9_whyNoSplit_0 : decode cX9_whyNoSplit 0 = .ok (.aload_n 0, 1) := by decide +kernel
theorem dX9_whyNoSplit_1 : decode cX9_whyNoSplit 1 = .ok (.getfield 167, 3) := by decide +kernel
theorem dX9_whyNoSplit_4 : decode cX9_whyNoSplit 4 = .ok (.ifCond .le 8, 3) := by decide +kernel
theorem dX9_whyNoSplit_7 : decode cX9_whyNoSplit 7 = .ok (.bipush (-2), 2) := by decide +kernel
theorem dX9_whyNoSplit_9 : decode cX9_whyNoSplit 9 = .ok (.goto 28, 3) := by decide +kernel
theorem dX9_whyNoSplit_12 : decode cX9_whyNoSplit 12 = .ok (.aload_n 0, 1) := by decide +kernel
theorem dX9_whyNoSplit_13 : decode cX9_whyNoSplit 13 = .ok (.invokevirtual 120, 3) := by decide +kernel
theorem dX9_whyNoSplit_16 : decode cX9_whyNoSplit 16 = .ok (.ifCond .ne 8, 3) := by decide +kernel
theorem dX9_whyNoSplit_19 : decode cX9_whyNoSplit 19 = .ok (.bipush (-4), 2) := by decide +kernel
theorem dX9_whyNoSplit_21 : decode cX9_whyNoSplit 21 = .ok (.goto 16, 3) := by decide +kernel
theorem dX9_whyNoSplit_24 : decode cX9_whyNoSplit 24 = .ok (.aload_n 0, 1) := by decide +kernel
theorem dX9_whyNoSplit_25 : decode cX9_whyNoSplit 25 = .ok (.invokevirtual 197, 3) := by decide +kernel
theorem dX9_whyNoSplit_28 : decode cX9_whyNoSplit 28 = .ok (.ifCond .eq 7, 3) := by decide +kernel
theorem dX9_whyNoSplit_31 : decode cX9_whyNoSplit 31 = .ok (.iconst 0, 1) := by decide +kernel
theorem dX9_whyNoSplit_32 : decode cX9_whyNoSplit 32 = .ok (.goto 5, 3) := by decide +kernel
theorem dX9_whyNoSplit_35 : decode cX9_whyNoSplit 35 = .ok (.bipush (-5), 2) := by decide +kernel
theorem dX9_whyNoSplit_37 : decode cX9_whyNoSplit 37 = .ok (.ireturn, 1) := by decide +kernel
theorem dX9_whyNotDone_0 : decode cX9_whyNotDone 0 = .ok (.aload_n 0, 1) := by decide +kernel
theorem dX9_whyNotDone_1 : decode cX9_whyNotDone 1 = .ok (.getfield 182, 3) := by decide +kernel
theorem dX9_whyNotDone_4 : decode cX9_whyNotDone 4 = .ok (.lookupswitch 107 #[(45, 65), (112, 82), (114, 44), (115, 102)], 44) := by decide +kernel
theorem dX9_whyNotDone_48 : decode cX9_whyNotDone 48 = .ok (.aload_n 0, 1) := by decide +kernel
theorem dX9_whyNotDone_49 : decode cX9_whyNotDone 49 = .ok (.aload_n 0, 1) := by decide +kernel
theorem dX9_whyNotDone_50 : decode cX9_whyNotDone 50 = .ok (.getfield 167, 3) := by decide +kernel
theorem dX9_whyNotDone_53 : decode cX9_whyNotDone 53 = .ok (.aload_n 0, 1) := by decide +kernel
theorem dX9_whyNotDone_54 : decode cX9_whyNotDone 54 = .ok (.getfield 173, 3) := by decide +kernel
theorem dX9_whyNotDone_57 : decode cX9_whyNotDone 57 = .ok (.aload_n 0, 1) := by decide +kernel
theorem dX9_whyNotDone_58 : decode cX9_whyNotDone 58 = .ok (.getfield 176, 3) := by decide +kernel
theorem dX9_whyNotDone_61 : decode cX9_whyNotDone 61 = .ok (.aload_n 0, 1) := by decide +kernel
theorem dX9_whyNotDone_62 : decode cX9_whyNotDone 62 = .ok (.getfield 179, 3) := by decide +kernel
theorem dX9_whyNotDone_65 : decode cX9_whyNotDone 65 = .ok (.invokevirtual 103, 3) := by decide +kernel
theorem dX9_whyNotDone_68 : decode cX9_whyNotDone 68 = .ok (.ireturn, 1) := by decide +kernel
theorem dX9_whyNotDone_69 : decode cX9_whyNotDone 69 = .ok (.aload_n 0, 1) := by decide +kernel
theorem dX9_whyNotDone_70 : decode cX9_whyNotDone 70 = .ok (.aload_n 0, 1) := by decide +kernel
theorem dX9_whyNotDone_71 : decode cX9_whyNotDone 71 = .ok (.getfield 167, 3) := by decide +kernel
theorem dX9_whyNotDone_74 : decode cX9_whyNotDone 74 = .ok (.invokevirtual 110, 3) := by decide +kernel
theorem dX9_whyNotDone_77 : decode cX9_whyNotDone 77 = .ok (.ifCond .eq 7, 3) := by decide +kernel
theorem dX9_whyNotDone_80 : decode cX9_whyNotDone 80 = .ok (.iconst 0, 1) := by decide +kernel
theorem dX9_whyNotDone_81 : decode cX9_whyNotDone 81 = .ok (.goto 4, 3) := by decide +kernel
theorem dX9_whyNotDone_84 : decode cX9_whyNotDone 84 = .ok (.iconst (-1), 1) := by decide +kernel
theorem dX9_whyNotDone_85 : decode cX9_whyNotDone 85 = .ok (.ireturn, 1) := by decide +kernel
theorem dX9_whyNotDone_86 : decode cX9_whyNotDone 86 = .ok (.aload_n 0, 1) := by decide +kernel
theorem dX9_whyNotDone_87 : decode cX9_whyNotDone 87 = .ok (.getfield 167, 3) := by decide +kernel
theorem dX9_whyNotDone_90 : decode cX9_whyNotDone 90 = .ok (.iconst 1, 1) := by decide +kernel
theorem dX9_whyNotDone_91 : decode cX9_whyNotDone 91 = .ok (.bipush 99, 2) := by decide +kernel
theorem dX9_whyNotDone_93 : decode cX9_whyNotDone 93 = .ok (.invokestatic 53, 3) := by decide +kernel
theorem dX9_whyNotDone_96 : decode cX9_whyNotDone 96 = .ok (.ifCond .eq 7, 3) := by decide +kernel
theorem dX9_whyNotDone_99 : decode cX9_whyNotDone 99 = .ok (.iconst 0, 1) := by decide +kernel
theorem dX9_whyNotDone_100 : decode cX9_whyNotDone 100 = .ok (.goto 5, 3) := by decide +kernel
theorem dX9_whyNotDone_103 : decode cX9_whyNotDone 103 = .ok (.bipush (-2), 2) := by decide +kernel
theorem dX9_whyNotDone_105 : decode cX9_whyNotDone 105 = .ok (.ireturn, 1) := by decide +kernel
theorem dX9_whyNotDone_106 : decode cX9_whyNotDone 106 = .ok (.aload_n 0, 1) := by decide +kernel
theorem dX9_whyNotDone_107 : decode cX9_whyNotDone 107 = .ok (.invokevirtual 200, 3) := by decide +kernel
theorem dX9_whyNotDone_110 : decode cX9_whyNotDone 110 = .ok (.ireturn, 1) := by decide +kernel
theorem dX9_whyNotDone_111 : decode cX9_whyNotDone 111 = .ok (.iconst 0, 1) := by decide +kernel
theorem dX9_whyNotDone_112 : decode cX9_whyNotDone 112 = .ok (.ireturn, 1) := by decide +kernel
theorem dX9_does_0 : decode cX9_does 0 = .ok (.aload_n 0, 1) := by decide +kernel
theorem dX9_does_1 : decode cX9_does 1 = .ok (.getfield 182, 3) := by decide +kernel
theorem dX9_does_4 : decode cX9_does 4 = .ok (.lookupswitch 98 #[(45, 68), (112, 80), (114, 44), (115, 91)], 44) := by decide +kernel
theorem dX9_does_48 : decode cX9_does 48 = .ok (.aload_n 0, 1) := by decide +kernel
theorem dX9_does_49 : decode cX9_does 49 = .ok (.aload_n 0, 1) := by decide +kernel
theorem dX9_does_50 : decode cX9_does 50 = .ok (.getfield 167, 3) := by decide +kernel
theorem dX9_does_53 : decode cX9_does 53 = .ok (.aload_n 0, 1) := by decide +kernel
theorem dX9_does_54 : decode cX9_does 54 = .ok (.getfield 173, 3) := by decide +kernel
theorem dX9_does_57 : decode cX9_does 57 = .ok (.aload_n 0, 1) := by decide +kernel
theorem dX9_does_58 : decode cX9_does 58 = .ok (.getfield 176, 3) := by decide +kernel
theorem dX9_does_61 : decode cX9_does 61 = .ok (.aload_n 0, 1) := by decide +kernel
theorem dX9_does_62 : decode cX9_does 62 = .ok (.getfield 179, 3) := by decide +kernel
theorem dX9_does_65 : decode cX9_does 65 = .ok (.invokevirtual 107, 3) := by decide +kernel
theorem dX9_does_68 : decode cX9_does 68 = .ok (.pop, 1) := by decide +kernel
theorem dX9_does_69 : decode cX9_does 69 = .ok (.goto 38, 3) := by decide +kernel
theorem dX9_does_72 : decode cX9_does 72 = .ok (.aload_n 0, 1) := by decide +kernel
theorem dX9_does_73 : decode cX9_does 73 = .ok (.aload_n 0, 1) := by decide +kernel
theorem dX9_does_74 : decode cX9_does 74 = .ok (.getfield 167, 3) := by decide +kernel
theorem dX9_does_77 : decode cX9_does 77 = .ok (.invokevirtual 114, 3) := by decide +kernel
theorem dX9_does_80 : decode cX9_does 80 = .ok (.pop, 1) := by decide +kernel
theorem dX9_does_81 : decode cX9_does 81 = .ok (.goto 26, 3) := by decide +kernel
theorem dX9_does_84 : decode cX9_does 84 = .ok (.aload_n 0, 1) := by decide +kernel
theorem dX9_does_85 : decode cX9_does 85 = .ok (.aload_n 0, 1) := by decide +kernel
theorem dX9_does_86 : decode cX9_does 86 = .ok (.getfield 167, 3) := by decide +kernel
theorem dX9_does_89 : decode cX9_does 89 = .ok (.invokevirtual 100, 3) := by decide +kernel
theorem dX9_does_92 : decode cX9_does 92 = .ok (.goto 15, 3) := by decide +kernel
theorem dX9_does_95 : decode cX9_does 95 = .ok (.aload_n 0, 1) := by decide +kernel
theorem dX9_does_96 : decode cX9_does 96 = .ok (.invokevirtual 78, 3) := by decide +kernel
theorem dX9_does_99 : decode cX9_does 99 = .ok (.goto 8, 3) := by decide +kernel
theorem dX9_does_102 : decode cX9_does 102 = .ok (.aload_n 0, 1) := by decide +kernel
theorem dX9_does_103 : decode cX9_does 103 = .ok (.invokevirtual 131, 3) := by decide +kernel
theorem dX9_does_106 : decode cX9_does 106 = .ok (.pop, 1) := by decide +kernel
theorem dX9_does_107 : decode cX9_does 107 = .ok (.return_, 1) := by decide +kernel
theorem dX9_carryOut_0 : decode cX9_carryOut 0 = .ok (.aload_n 0, 1) := by decide +kernel
theorem dX9_carryOut_1 : decode cX9_carryOut 1 = .ok (.invokevirtual 194, 3) := by decide +kernel
theorem dX9_carryOut_4 : decode cX9_carryOut 4 = .ok (.bipush (-6), 2) := by decide +kernel
theorem dX9_carryOut_6 : decode cX9_carryOut 6 = .ok (.if_icmp .eq 6, 3) := by decide +kernel
theorem dX9_carryOut_9 : decode cX9_carryOut 9 = .ok (.bipush (-3), 2) := by decide +kernel
theorem dX9_carryOut_11 : decode cX9_carryOut 11 = .ok (.ireturn, 1) := by decide +kernel
theorem dX9_carryOut_12 : decode cX9_carryOut 12 = .ok (.aload_n 0, 1) := by decide +kernel
theorem dX9_carryOut_13 : decode cX9_carryOut 13 = .ok (.invokevirtual 97, 3) := by decide +kernel
theorem dX9_carryOut_16 : decode cX9_carryOut 16 = .ok (.iconst 0, 1) := by decide +kernel
theorem dX9_carryOut_17 : decode cX9_carryOut 17 = .ok (.istore_n 1, 1) := by decide +kernel
theorem dX9_carryOut_18 : decode cX9_carryOut 18 = .ok (.aload_n 0, 1) := by decide +kernel
theorem dX9_carryOut_19 : decode cX9_carryOut 19 = .ok (.iconst 0, 1) := by decide +kernel
theorem dX9_carryOut_20 : decode cX9_carryOut 20 = .ok (.putfield 155, 3) := by decide +kernel
theorem dX9_carryOut_23 : decode cX9_carryOut 23 = .ok (.iconst 1, 1) := by decide +kernel
theorem dX9_carryOut_24 : decode cX9_carryOut 24 = .ok (.istore_n 2, 1) := by decide +kernel
theorem dX9_carryOut_25 : decode cX9_carryOut 25 = .ok (.iload_n 2, 1) := by decide +kernel
theorem dX9_carryOut_26 : decode cX9_carryOut 26 = .ok (.ifCond .eq 53, 3) := by decide +kernel
theorem dX9_carryOut_29 : decode cX9_carryOut 29 = .ok (.aload_n 0, 1) := by decide +kernel
theorem dX9_carryOut_30 : decode cX9_carryOut 30 = .ok (.getfield 155, 3) := by decide +kernel
theorem dX9_carryOut_33 : decode cX9_carryOut 33 = .ok (.aload_n 0, 1) := by decide +kernel
theorem dX9_carryOut_34 : decode cX9_carryOut 34 = .ok (.getfield 150, 3) := by decide +kernel
theorem dX9_carryOut_37 : decode cX9_carryOut 37 = .ok (.if_icmp .ge 42, 3) := by decide +kernel
theorem dX9_carryOut_40 : decode cX9_carryOut 40 = .ok (.aload_n 0, 1) := by decide +kernel
theorem dX9_carryOut_41 : decode cX9_carryOut 41 = .ok (.invokevirtual 191, 3) := by decide +kernel
theorem dX9_carryOut_44 : decode cX9_carryOut 44 = .ok (.pop, 1) := by decide +kernel
theorem dX9_carryOut_45 : decode cX9_carryOut 45 = .ok (.aload_n 0, 1) := by decide +kernel
theorem dX9_carryOut_46 : decode cX9_carryOut 46 = .ok (.bipush 59, 2) := by decide +kernel
theorem dX9_carryOut_48 : decode cX9_carryOut 48 = .ok (.invokevirtual 170, 3) := by decide +kernel
theorem dX9_carryOut_51 : decode cX9_carryOut 51 = .ok (.pop, 1) := by decide +kernel
theorem dX9_carryOut_52 : decode cX9_carryOut 52 = .ok (.aload_n 0, 1) := by decide +kernel
theorem dX9_carryOut_53 : decode cX9_carryOut 53 = .ok (.invokevirtual 203, 3) := by decide +kernel
theorem dX9_carryOut_56 : decode cX9_carryOut 56 = .ok (.ifCond .ne 7, 3) := by decide +kernel
theorem dX9_carryOut_59 : decode cX9_carryOut 59 = .ok (.iconst 1, 1) := by decide +kernel
theorem dX9_carryOut_60 : decode cX9_carryOut 60 = .ok (.goto 4, 3) := by decide +kernel
theorem dX9_carryOut_63 : decode cX9_carryOut 63 = .ok (.iconst 0, 1) := by decide +kernel
theorem dX9_carryOut_64 : decode cX9_carryOut 64 = .ok (.istore_n 2, 1) := by decide +kernel
theorem dX9_carryOut_65 : decode cX9_carryOut 65 = .ok (.iload_n 2, 1) := by decide +kernel
theorem dX9_carryOut_66 : decode cX9_carryOut 66 = .ok (.ifCond .eq (-41), 3) := by decide +kernel
theorem dX9_carryOut_69 : decode cX9_carryOut 69 = .ok (.aload_n 0, 1) := by decide +kernel
theorem dX9_carryOut_70 : decode cX9_carryOut 70 = .ok (.invokevirtual 206, 3) := by decide +kernel
theorem dX9_carryOut_73 : decode cX9_carryOut 73 = .ok (.iinc 1 1, 3) := by decide +kernel
theorem dX9_carryOut_76 : decode cX9_carryOut 76 = .ok (.goto (-51), 3) := by decide +kernel
theorem dX9_carryOut_79 : decode cX9_carryOut 79 = .ok (.aload_n 0, 1) := by decide +kernel
theorem dX9_carryOut_80 : decode cX9_carryOut 80 = .ok (.iconst 0, 1) := by decide +kernel
theorem dX9_carryOut_81 : decode cX9_carryOut 81 = .ok (.putfield 150, 3) := by decide +kernel
theorem dX9_carryOut_84 : decode cX9_carryOut 84 = .ok (.iload_n 1, 1) := by decide +kernel
theorem dX9_carryOut_85 : decode cX9_carryOut 85 = .ok (.ireturn, 1) := by decide +kernel
theorem dX9_undo_0 : decode cX9_undo 0 = .ok (.aload_n 0, 1) := by decide +kernel
theorem dX9_undo_1 : decode cX9_undo 1 = .ok (.getfield 35, 3) := by decide +kernel
theorem dX9_undo_4 : decode cX9_undo 4 = .ok (.ifCond .ne 6, 3) := by decide +kernel
theorem dX9_undo_7 : decode cX9_undo 7 = .ok (.bipush (-5), 2) := by decide +kernel
theorem dX9_undo_9 : decode cX9_undo 9 = .ok (.ireturn, 1) := by decide +kernel
theorem dX9_undo_10 : decode cX9_undo 10 = .ok (.aload_n 0, 1) := by decide +kernel
theorem dX9_undo_11 : decode cX9_undo 11 = .ok (.dup, 1) := by decide +kernel
theorem dX9_undo_12 : decode cX9_undo 12 = .ok (.getfield 35, 3) := by decide +kernel
theorem dX9_undo_15 : decode cX9_undo 15 = .ok (.iconst 1, 1) := by decide +kernel
theorem dX9_undo_16 : decode cX9_undo 16 = .ok (.isub, 1) := by decide +kernel
theorem dX9_undo_17 : decode cX9_undo 17 = .ok (.putfield 35, 3) := by decide +kernel
theorem dX9_undo_20 : decode cX9_undo 20 = .ok (.aload_n 0, 1) := by decide +kernel
theorem dX9_undo_21 : decode cX9_undo 21 = .ok (.getfield 13, 3) := by decide +kernel
theorem dX9_undo_24 : decode cX9_undo 24 = .ok (.aload_n 0, 1) := by decide +kernel
theorem dX9_undo_25 : decode cX9_undo 25 = .ok (.getfield 35, 3) := by decide +kernel
theorem dX9_undo_28 : decode cX9_undo 28 = .ok (.bipush 35, 2) := by decide +kernel
theorem dX9_undo_30 : decode cX9_undo 30 = .ok (.imul, 1) := by decide +kernel
theorem dX9_undo_31 : decode cX9_undo 31 = .ok (.aload_n 0, 1) := by decide +kernel
theorem dX9_undo_32 : decode cX9_undo 32 = .ok (.getfield 7, 3) := by decide +kernel
theorem dX9_undo_35 : decode cX9_undo 35 = .ok (.iconst 0, 1) := by decide +kernel
theorem dX9_undo_36 : decode cX9_undo 36 = .ok (.invokestatic 39, 3) := by decide +kernel
theorem dX9_undo_39 : decode cX9_undo 39 = .ok (.aload_n 0, 1) := by decide +kernel
theorem dX9_undo_40 : decode cX9_undo 40 = .ok (.getfield 35, 3) := by decide +kernel
theorem dX9_undo_43 : decode cX9_undo 43 = .ok (.ireturn, 1) := by decide +kernel
theorem dX9_save_0 : decode cX9_save 0 = .ok (.iload_n 1, 1) := by decide +kernel
theorem dX9_save_1 : decode cX9_save 1 = .ok (.iconst 0, 1) := by decide +kernel
theorem dX9_save_2 : decode cX9_save 2 = .ok (.iconst 1, 1) := by decide +kernel
theorem dX9_save_3 : decode cX9_save 3 = .ok (.invokestatic 53, 3) := by decide +kernel
theorem dX9_save_6 : decode cX9_save 6 = .ok (.ifCond .ne 6, 3) := by decide +kernel
theorem dX9_save_9 : decode cX9_save 9 = .ok (.bipush (-2), 2) := by decide +kernel
theorem dX9_save_11 : decode cX9_save 11 = .ok (.ireturn, 1) := by decide +kernel
theorem dX9_save_12 : decode cX9_save 12 = .ok (.aload_n 0, 1) := by decide +kernel
theorem dX9_save_13 : decode cX9_save 13 = .ok (.getfield 7, 3) := by decide +kernel
theorem dX9_save_16 : decode cX9_save 16 = .ok (.iconst 0, 1) := by decide +kernel
theorem dX9_save_17 : decode cX9_save 17 = .ok (.aload_n 0, 1) := by decide +kernel
theorem dX9_save_18 : decode cX9_save 18 = .ok (.getfield 16, 3) := by decide +kernel
theorem dX9_save_21 : decode cX9_save 21 = .ok (.bipush 35, 2) := by decide +kernel
theorem dX9_save_23 : decode cX9_save 23 = .ok (.iload_n 1, 1) := by decide +kernel
theorem dX9_save_24 : decode cX9_save 24 = .ok (.imul, 1) := by decide +kernel
theorem dX9_save_25 : decode cX9_save 25 = .ok (.invokestatic 39, 3) := by decide +kernel
theorem dX9_save_28 : decode cX9_save 28 = .ok (.aload_n 0, 1) := by decide +kernel
theorem dX9_save_29 : decode cX9_save 29 = .ok (.getfield 19, 3) := by decide +kernel
theorem dX9_save_32 : decode cX9_save 32 = .ok (.iload_n 1, 1) := by decide +kernel
theorem dX9_save_33 : decode cX9_save 33 = .ok (.iconst 1, 1) := by decide +kernel
theorem dX9_save_34 : decode cX9_save 34 = .ok (.iastore, 1) := by decide +kernel
theorem dX9_save_35 : decode cX9_save 35 = .ok (.aload_n 0, 1) := by decide +kernel
theorem dX9_save_36 : decode cX9_save 36 = .ok (.getfield 7, 3) := by decide +kernel
theorem dX9_save_39 : decode cX9_save 39 = .ok (.iconst 0, 1) := by decide +kernel
theorem dX9_save_40 : decode cX9_save 40 = .ok (.iaload, 1) := by decide +kernel
theorem dX9_save_41 : decode cX9_save 41 = .ok (.ireturn, 1) := by decide +kernel
theorem dX9_restore_0 : decode cX9_restore 0 = .ok (.iload_n 1, 1) := by decide +kernel
theorem dX9_restore_1 : decode cX9_restore 1 = .ok (.iconst 0, 1) := by decide +kernel
theorem dX9_restore_2 : decode cX9_restore 2 = .ok (.iconst 1, 1) := by decide +kernel
theorem dX9_restore_3 : decode cX9_restore 3 = .ok (.invokestatic 53, 3) := by decide +kernel
theorem dX9_restore_6 : decode cX9_restore 6 = .ok (.ifCond .ne 6, 3) := by decide +kernel
theorem dX9_restore_9 : decode cX9_restore 9 = .ok (.bipush (-2), 2) := by decide +kernel
theorem dX9_restore_11 : decode cX9_restore 11 = .ok (.ireturn, 1) := by decide +kernel
theorem dX9_restore_12 : decode cX9_restore 12 = .ok (.aload_n 0, 1) := by decide +kernel
theorem dX9_restore_13 : decode cX9_restore 13 = .ok (.getfield 19, 3) := by decide +kernel
theorem dX9_restore_16 : decode cX9_restore 16 = .ok (.iload_n 1, 1) := by decide +kernel
theorem dX9_restore_17 : decode cX9_restore 17 = .ok (.iaload, 1) := by decide +kernel
theorem dX9_restore_18 : decode cX9_restore 18 = .ok (.ifCond .ne 6, 3) := by decide +kernel
theorem dX9_restore_21 : decode cX9_restore 21 = .ok (.bipush (-5), 2) := by decide +kernel
theorem dX9_restore_23 : decode cX9_restore 23 = .ok (.ireturn, 1) := by decide +kernel
theorem dX9_restore_24 : decode cX9_restore 24 = .ok (.aload_n 0, 1) := by decide +kernel
theorem dX9_restore_25 : decode cX9_restore 25 = .ok (.invokevirtual 97, 3) := by decide +kernel
theorem dX9_restore_28 : decode cX9_restore 28 = .ok (.aload_n 0, 1) := by decide +kernel
theorem dX9_restore_29 : decode cX9_restore 29 = .ok (.getfield 16, 3) := by decide +kernel
theorem dX9_restore_32 : decode cX9_restore 32 = .ok (.bipush 35, 2) := by decide +kernel
theorem dX9_restore_34 : decode cX9_restore 34 = .ok (.iload_n 1, 1) := by decide +kernel
theorem dX9_restore_35 : decode cX9_restore 35 = .ok (.imul, 1) := by decide +kernel
theorem dX9_restore_36 : decode cX9_restore 36 = .ok (.aload_n 0, 1) := by decide +kernel
theorem dX9_restore_37 : decode cX9_restore 37 = .ok (.getfield 7, 3) := by decide +kernel
theorem dX9_restore_40 : decode cX9_restore 40 = .ok (.iconst 0, 1) := by decide +kernel
theorem dX9_restore_41 : decode cX9_restore 41 = .ok (.invokestatic 39, 3) := by decide +kernel
theorem dX9_restore_44 : decode cX9_restore 44 = .ok (.aload_n 0, 1) := by decide +kernel
theorem dX9_restore_45 : decode cX9_restore 45 = .ok (.getfield 7, 3) := by decide +kernel
theorem dX9_restore_48 : decode cX9_restore 48 = .ok (.iconst 0, 1) := by decide +kernel
theorem dX9_restore_49 : decode cX9_restore 49 = .ok (.iaload, 1) := by decide +kernel
theorem dX9_restore_50 : decode cX9_restore 50 = .ok (.ireturn, 1) := by decide +kernel
