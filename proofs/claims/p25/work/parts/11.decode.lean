theorem dL_cell_0 : decode cL_cell 0 = .ok (.iload_n 1, 1) := by decide +kernel
theorem dL_cell_1 : decode cL_cell 1 = .ok (.aload_n 0, 1) := by decide +kernel
theorem dL_cell_2 : decode cL_cell 2 = .ok (.arraylength, 1) := by decide +kernel
theorem dL_cell_3 : decode cL_cell 3 = .ok (.if_icmp .ge 9, 3) := by decide +kernel
theorem dL_cell_6 : decode cL_cell 6 = .ok (.aload_n 0, 1) := by decide +kernel
theorem dL_cell_7 : decode cL_cell 7 = .ok (.iload_n 1, 1) := by decide +kernel
theorem dL_cell_8 : decode cL_cell 8 = .ok (.iaload, 1) := by decide +kernel
theorem dL_cell_9 : decode cL_cell 9 = .ok (.goto 12, 3) := by decide +kernel
theorem dL_cell_12 : decode cL_cell 12 = .ok (.ldc 7, 2) := by decide +kernel
theorem dL_cell_14 : decode cL_cell 14 = .ok (.iload_n 1, 1) := by decide +kernel
theorem dL_cell_15 : decode cL_cell 15 = .ok (.iconst 1, 1) := by decide +kernel
theorem dL_cell_16 : decode cL_cell 16 = .ok (.iadd, 1) := by decide +kernel
theorem dL_cell_17 : decode cL_cell 17 = .ok (.imul, 1) := by decide +kernel
theorem dL_cell_18 : decode cL_cell 18 = .ok (.ldc 8, 2) := by decide +kernel
theorem dL_cell_20 : decode cL_cell 20 = .ok (.iadd, 1) := by decide +kernel
theorem dL_cell_21 : decode cL_cell 21 = .ok (.ireturn, 1) := by decide +kernel
theorem dL_low_0 : decode cL_low 0 = .ok (.iload_n 0, 1) := by decide +kernel
theorem dL_low_1 : decode cL_low 1 = .ok (.ldc 9, 2) := by decide +kernel
theorem dL_low_3 : decode cL_low 3 = .ok (.iand, 1) := by decide +kernel
theorem dL_low_4 : decode cL_low 4 = .ok (.iload_n 1, 1) := by decide +kernel
theorem dL_low_5 : decode cL_low 5 = .ok (.irem, 1) := by decide +kernel
theorem dL_low_6 : decode cL_low 6 = .ok (.ireturn, 1) := by decide +kernel
theorem dL_gcd_0 : decode cL_gcd 0 = .ok (.iload_n 0, 1) := by decide +kernel
theorem dL_gcd_1 : decode cL_gcd 1 = .ok (.istore_n 2, 1) := by decide +kernel
theorem dL_gcd_2 : decode cL_gcd 2 = .ok (.iload_n 1, 1) := by decide +kernel
theorem dL_gcd_3 : decode cL_gcd 3 = .ok (.istore_n 3, 1) := by decide +kernel
theorem dL_gcd_4 : decode cL_gcd 4 = .ok (.iload_n 3, 1) := by decide +kernel
theorem dL_gcd_5 : decode cL_gcd 5 = .ok (.ifCond .eq 16, 3) := by decide +kernel
theorem dL_gcd_8 : decode cL_gcd 8 = .ok (.iload_n 2, 1) := by decide +kernel
theorem dL_gcd_9 : decode cL_gcd 9 = .ok (.iload_n 3, 1) := by decide +kernel
theorem dL_gcd_10 : decode cL_gcd 10 = .ok (.irem, 1) := by decide +kernel
theorem dL_gcd_11 : decode cL_gcd 11 = .ok (.istore 4, 2) := by decide +kernel
theorem dL_gcd_13 : decode cL_gcd 13 = .ok (.iload_n 3, 1) := by decide +kernel
theorem dL_gcd_14 : decode cL_gcd 14 = .ok (.istore_n 2, 1) := by decide +kernel
theorem dL_gcd_15 : decode cL_gcd 15 = .ok (.iload 4, 2) := by decide +kernel
theorem dL_gcd_17 : decode cL_gcd 17 = .ok (.istore_n 3, 1) := by decide +kernel
theorem dL_gcd_18 : decode cL_gcd 18 = .ok (.goto (-14), 3) := by decide +kernel
theorem dL_gcd_21 : decode cL_gcd 21 = .ok (.iload_n 2, 1) := by decide +kernel
theorem dL_gcd_22 : decode cL_gcd 22 = .ok (.ifCond .ge 8, 3) := by decide +kernel
theorem dL_gcd_25 : decode cL_gcd 25 = .ok (.iload_n 2, 1) := by decide +kernel
theorem dL_gcd_26 : decode cL_gcd 26 = .ok (.ineg, 1) := by decide +kernel
theorem dL_gcd_27 : decode cL_gcd 27 = .ok (.goto 4, 3) := by decide +kernel
theorem dL_gcd_30 : decode cL_gcd 30 = .ok (.iload_n 2, 1) := by decide +kernel
theorem dL_gcd_31 : decode cL_gcd 31 = .ok (.ireturn, 1) := by decide +kernel
theorem dL_least_0 : decode cL_least 0 = .ok (.iload_n 0, 1) := by decide +kernel
theorem dL_least_1 : decode cL_least 1 = .ok (.iload_n 1, 1) := by decide +kernel
theorem dL_least_2 : decode cL_least 2 = .ok (.invokestatic 10, 3) := by decide +kernel
theorem dL_least_5 : decode cL_least 5 = .ok (.istore_n 3, 1) := by decide +kernel
theorem dL_least_6 : decode cL_least 6 = .ok (.aload_n 2, 1) := by decide +kernel
theorem dL_least_7 : decode cL_least 7 = .ok (.iconst 0, 1) := by decide +kernel
theorem dL_least_8 : decode cL_least 8 = .ok (.iload_n 0, 1) := by decide +kernel
theorem dL_least_9 : decode cL_least 9 = .ok (.iload_n 3, 1) := by decide +kernel
theorem dL_least_10 : decode cL_least 10 = .ok (.idiv, 1) := by decide +kernel
theorem dL_least_11 : decode cL_least 11 = .ok (.iastore, 1) := by decide +kernel
theorem dL_least_12 : decode cL_least 12 = .ok (.aload_n 2, 1) := by decide +kernel
theorem dL_least_13 : decode cL_least 13 = .ok (.iconst 1, 1) := by decide +kernel
theorem dL_least_14 : decode cL_least 14 = .ok (.iload_n 1, 1) := by decide +kernel
theorem dL_least_15 : decode cL_least 15 = .ok (.iload_n 3, 1) := by decide +kernel
theorem dL_least_16 : decode cL_least 16 = .ok (.idiv, 1) := by decide +kernel
theorem dL_least_17 : decode cL_least 17 = .ok (.iastore, 1) := by decide +kernel
theorem dL_least_18 : decode cL_least 18 = .ok (.return_, 1) := by decide +kernel
theorem dL_acting_0 : decode cL_acting 0 = .ok (.iconst 0, 1) := by decide +kernel
theorem dL_acting_1 : decode cL_acting 1 = .ok (.istore_n 3, 1) := by decide +kernel
theorem dL_acting_2 : decode cL_acting 2 = .ok (.iconst 0, 1) := by decide +kernel
theorem dL_acting_3 : decode cL_acting 3 = .ok (.istore 4, 2) := by decide +kernel
theorem dL_acting_5 : decode cL_acting 5 = .ok (.iload 4, 2) := by decide +kernel
theorem dL_acting_7 : decode cL_acting 7 = .ok (.aload_n 1, 1) := by decide +kernel
theorem dL_acting_8 : decode cL_acting 8 = .ok (.iconst 1, 1) := by decide +kernel
theorem dL_acting_9 : decode cL_acting 9 = .ok (.iaload, 1) := by decide +kernel
theorem dL_acting_10 : decode cL_acting 10 = .ok (.if_icmp .ge 49, 3) := by decide +kernel
theorem dL_acting_13 : decode cL_acting 13 = .ok (.iload_n 3, 1) := by decide +kernel
theorem dL_acting_14 : decode cL_acting 14 = .ok (.iload_n 0, 1) := by decide +kernel
theorem dL_acting_15 : decode cL_acting 15 = .ok (.aload_n 2, 1) := by decide +kernel
theorem dL_acting_16 : decode cL_acting 16 = .ok (.iconst 4, 1) := by decide +kernel
theorem dL_acting_17 : decode cL_acting 17 = .ok (.iload 4, 2) := by decide +kernel
theorem dL_acting_19 : decode cL_acting 19 = .ok (.imul, 1) := by decide +kernel
theorem dL_acting_20 : decode cL_acting 20 = .ok (.iaload, 1) := by decide +kernel
theorem dL_acting_21 : decode cL_acting 21 = .ok (.aload_n 2, 1) := by decide +kernel
theorem dL_acting_22 : decode cL_acting 22 = .ok (.iconst 4, 1) := by decide +kernel
theorem dL_acting_23 : decode cL_acting 23 = .ok (.iload 4, 2) := by decide +kernel
theorem dL_acting_25 : decode cL_acting 25 = .ok (.imul, 1) := by decide +kernel
theorem dL_acting_26 : decode cL_acting 26 = .ok (.iconst 1, 1) := by decide +kernel
theorem dL_acting_27 : decode cL_acting 27 = .ok (.iadd, 1) := by decide +kernel
theorem dL_acting_28 : decode cL_acting 28 = .ok (.iaload, 1) := by decide +kernel
theorem dL_acting_29 : decode cL_acting 29 = .ok (.iadd, 1) := by decide +kernel
theorem dL_acting_30 : decode cL_acting 30 = .ok (.imul, 1) := by decide +kernel
theorem dL_acting_31 : decode cL_acting 31 = .ok (.bipush 100, 2) := by decide +kernel
theorem dL_acting_33 : decode cL_acting 33 = .ok (.aload_n 2, 1) := by decide +kernel
theorem dL_acting_34 : decode cL_acting 34 = .ok (.iconst 4, 1) := by decide +kernel
theorem dL_acting_35 : decode cL_acting 35 = .ok (.iload 4, 2) := by decide +kernel
theorem dL_acting_37 : decode cL_acting 37 = .ok (.imul, 1) := by decide +kernel
theorem dL_acting_38 : decode cL_acting 38 = .ok (.iaload, 1) := by decide +kernel
theorem dL_acting_39 : decode cL_acting 39 = .ok (.imul, 1) := by decide +kernel
theorem dL_acting_40 : decode cL_acting 40 = .ok (.if_icmp .lt 10, 3) := by decide +kernel
theorem dL_acting_43 : decode cL_acting 43 = .ok (.iconst 1, 1) := by decide +kernel
theorem dL_acting_44 : decode cL_acting 44 = .ok (.iload 4, 2) := by decide +kernel
theorem dL_acting_46 : decode cL_acting 46 = .ok (.ishl, 1) := by decide +kernel
theorem dL_acting_47 : decode cL_acting 47 = .ok (.goto 4, 3) := by decide +kernel
theorem dL_acting_50 : decode cL_acting 50 = .ok (.iconst 0, 1) := by decide +kernel
theorem dL_acting_51 : decode cL_acting 51 = .ok (.ior, 1) := by decide +kernel
theorem dL_acting_52 : decode cL_acting 52 = .ok (.istore_n 3, 1) := by decide +kernel
theorem dL_acting_53 : decode cL_acting 53 = .ok (.iinc 4 1, 3) := by decide +kernel
theorem dL_acting_56 : decode cL_acting 56 = .ok (.goto (-51), 3) := by decide +kernel
theorem dL_acting_59 : decode cL_acting 59 = .ok (.iload_n 3, 1) := by decide +kernel
theorem dL_acting_60 : decode cL_acting 60 = .ok (.ireturn, 1) := by decide +kernel
theorem dL_value_0 : decode cL_value 0 = .ok (.iload_n 0, 1) := by decide +kernel
theorem dL_value_1 : decode cL_value 1 = .ok (.aload_n 1, 1) := by decide +kernel
theorem dL_value_2 : decode cL_value 2 = .ok (.aload_n 2, 1) := by decide +kernel
theorem dL_value_3 : decode cL_value 3 = .ok (.invokestatic 16, 3) := by decide +kernel
theorem dL_value_6 : decode cL_value 6 = .ok (.istore_n 3, 1) := by decide +kernel
theorem dL_value_7 : decode cL_value 7 = .ok (.iconst 0, 1) := by decide +kernel
theorem dL_value_8 : decode cL_value 8 = .ok (.istore 4, 2) := by decide +kernel
theorem dL_value_10 : decode cL_value 10 = .ok (.iconst 1, 1) := by decide +kernel
theorem dL_value_11 : decode cL_value 11 = .ok (.istore 5, 2) := by decide +kernel
theorem dL_value_13 : decode cL_value 13 = .ok (.iconst 0, 1) := by decide +kernel
theorem dL_value_14 : decode cL_value 14 = .ok (.istore 6, 2) := by decide +kernel
theorem dL_value_16 : decode cL_value 16 = .ok (.iload 6, 2) := by decide +kernel
theorem dL_value_18 : decode cL_value 18 = .ok (.aload_n 1, 1) := by decide +kernel
theorem dL_value_19 : decode cL_value 19 = .ok (.iconst 1, 1) := by decide +kernel
theorem dL_value_20 : decode cL_value 20 = .ok (.iaload, 1) := by decide +kernel
theorem dL_value_21 : decode cL_value 21 = .ok (.if_icmp .ge 51, 3) := by decide +kernel
theorem dL_value_24 : decode cL_value 24 = .ok (.iload 4, 2) := by decide +kernel
theorem dL_value_26 : decode cL_value 26 = .ok (.iload_n 3, 1) := by decide +kernel
theorem dL_value_27 : decode cL_value 27 = .ok (.iload 6, 2) := by decide +kernel
theorem dL_value_29 : decode cL_value 29 = .ok (.ishr, 1) := by decide +kernel
theorem dL_value_30 : decode cL_value 30 = .ok (.iconst 1, 1) := by decide +kernel
theorem dL_value_31 : decode cL_value 31 = .ok (.iand, 1) := by decide +kernel
theorem dL_value_32 : decode cL_value 32 = .ok (.aload_n 2, 1) := by decide +kernel
theorem dL_value_33 : decode cL_value 33 = .ok (.iconst 4, 1) := by decide +kernel
theorem dL_value_34 : decode cL_value 34 = .ok (.iload 6, 2) := by decide +kernel
theorem dL_value_36 : decode cL_value 36 = .ok (.imul, 1) := by decide +kernel
theorem dL_value_37 : decode cL_value 37 = .ok (.iconst 2, 1) := by decide +kernel
theorem dL_value_38 : decode cL_value 38 = .ok (.iadd, 1) := by decide +kernel
theorem dL_value_39 : decode cL_value 39 = .ok (.iaload, 1) := by decide +kernel
theorem dL_value_40 : decode cL_value 40 = .ok (.imul, 1) := by decide +kernel
theorem dL_value_41 : decode cL_value 41 = .ok (.iadd, 1) := by decide +kernel
theorem dL_value_42 : decode cL_value 42 = .ok (.istore 4, 2) := by decide +kernel
theorem dL_value_44 : decode cL_value 44 = .ok (.iload 5, 2) := by decide +kernel
theorem dL_value_46 : decode cL_value 46 = .ok (.ifCond .eq 17, 3) := by decide +kernel
theorem dL_value_49 : decode cL_value 49 = .ok (.iload_n 3, 1) := by decide +kernel
theorem dL_value_50 : decode cL_value 50 = .ok (.iload 6, 2) := by decide +kernel
theorem dL_value_52 : decode cL_value 52 = .ok (.ishr, 1) := by decide +kernel
theorem dL_value_53 : decode cL_value 53 = .ok (.iconst 1, 1) := by decide +kernel
theorem dL_value_54 : decode cL_value 54 = .ok (.iand, 1) := by decide +kernel
theorem dL_value_55 : decode cL_value 55 = .ok (.iconst 1, 1) := by decide +kernel
theorem dL_value_56 : decode cL_value 56 = .ok (.if_icmp .ne 7, 3) := by decide +kernel
theorem dL_value_59 : decode cL_value 59 = .ok (.iconst 1, 1) := by decide +kernel
theorem dL_value_60 : decode cL_value 60 = .ok (.goto 4, 3) := by decide +kernel
theorem dL_value_63 : decode cL_value 63 = .ok (.iconst 0, 1) := by decide +kernel
theorem dL_value_64 : decode cL_value 64 = .ok (.istore 5, 2) := by decide +kernel
theorem dL_value_66 : decode cL_value 66 = .ok (.iinc 6 1, 3) := by decide +kernel
theorem dL_value_69 : decode cL_value 69 = .ok (.goto (-53), 3) := by decide +kernel
theorem dL_value_72 : decode cL_value 72 = .ok (.iconst 0, 1) := by decide +kernel
theorem dL_value_73 : decode cL_value 73 = .ok (.istore 6, 2) := by decide +kernel
theorem dL_value_75 : decode cL_value 75 = .ok (.iload 6, 2) := by decide +kernel
theorem dL_value_77 : decode cL_value 77 = .ok (.aload_n 1, 1) := by decide +kernel
theorem dL_value_78 : decode cL_value 78 = .ok (.iconst 1, 1) := by decide +kernel
theorem dL_value_79 : decode cL_value 79 = .ok (.iaload, 1) := by decide +kernel
theorem dL_value_80 : decode cL_value 80 = .ok (.if_icmp .ge 27, 3) := by decide +kernel
theorem dL_value_83 : decode cL_value 83 = .ok (.iload 5, 2) := by decide +kernel
theorem dL_value_85 : decode cL_value 85 = .ok (.ifCond .eq 22, 3) := by decide +kernel
theorem dL_value_88 : decode cL_value 88 = .ok (.iload 4, 2) := by decide +kernel
theorem dL_value_90 : decode cL_value 90 = .ok (.aload_n 2, 1) := by decide +kernel
theorem dL_value_91 : decode cL_value 91 = .ok (.iconst 4, 1) := by decide +kernel
theorem dL_value_92 : decode cL_value 92 = .ok (.iload 6, 2) := by decide +kernel
theorem dL_value_94 : decode cL_value 94 = .ok (.imul, 1) := by decide +kernel
theorem dL_value_95 : decode cL_value 95 = .ok (.iconst 3, 1) := by decide +kernel
theorem dL_value_96 : decode cL_value 96 = .ok (.iadd, 1) := by decide +kernel
theorem dL_value_97 : decode cL_value 97 = .ok (.iaload, 1) := by decide +kernel
theorem dL_value_98 : decode cL_value 98 = .ok (.iadd, 1) := by decide +kernel
theorem dL_value_99 : decode cL_value 99 = .ok (.istore 4, 2) := by decide +kernel
theorem dL_value_101 : decode cL_value 101 = .ok (.iinc 6 1, 3) := by decide +kernel
theorem dL_value_104 : decode cL_value 104 = .ok (.goto (-29), 3) := by decide +kernel
theorem dL_value_107 : decode cL_value 107 = .ok (.iload 4, 2) := by decide +kernel
theorem dL_value_109 : decode cL_value 109 = .ok (.ireturn, 1) := by decide +kernel
theorem dL_envelope_0 : decode cL_envelope 0 = .ok (.iload_n 0, 1) := by decide +kernel
theorem dL_envelope_1 : decode cL_envelope 1 = .ok (.sipush 1000, 3) := by decide +kernel
theorem dL_envelope_4 : decode cL_envelope 4 = .ok (.iload_n 0, 1) := by decide +kernel
theorem dL_envelope_5 : decode cL_envelope 5 = .ok (.imul, 1) := by decide +kernel
theorem dL_envelope_6 : decode cL_envelope 6 = .ok (.iadd, 1) := by decide +kernel
theorem dL_envelope_7 : decode cL_envelope 7 = .ok (.istore 4, 2) := by decide +kernel
theorem dL_envelope_9 : decode cL_envelope 9 = .ok (.aload_n 3, 1) := by decide +kernel
theorem dL_envelope_10 : decode cL_envelope 10 = .ok (.iconst 0, 1) := by decide +kernel
theorem dL_envelope_11 : decode cL_envelope 11 = .ok (.iload_n 0, 1) := by decide +kernel
theorem dL_envelope_12 : decode cL_envelope 12 = .ok (.aload_n 1, 1) := by decide +kernel
theorem dL_envelope_13 : decode cL_envelope 13 = .ok (.aload_n 2, 1) := by decide +kernel
theorem dL_envelope_14 : decode cL_envelope 14 = .ok (.invokestatic 20, 3) := by decide +kernel
theorem dL_envelope_17 : decode cL_envelope 17 = .ok (.iastore, 1) := by decide +kernel
theorem dL_envelope_18 : decode cL_envelope 18 = .ok (.aload_n 3, 1) := by decide +kernel
theorem dL_envelope_19 : decode cL_envelope 19 = .ok (.iconst 1, 1) := by decide +kernel
theorem dL_envelope_20 : decode cL_envelope 20 = .ok (.iconst 1, 1) := by decide +kernel
theorem dL_envelope_21 : decode cL_envelope 21 = .ok (.iastore, 1) := by decide +kernel
theorem dL_envelope_22 : decode cL_envelope 22 = .ok (.iconst 0, 1) := by decide +kernel
theorem dL_envelope_23 : decode cL_envelope 23 = .ok (.istore 5, 2) := by decide +kernel
theorem dL_envelope_25 : decode cL_envelope 25 = .ok (.iload 5, 2) := by decide +kernel
theorem dL_envelope_27 : decode cL_envelope 27 = .ok (.iload_n 0, 1) := by decide +kernel
theorem dL_envelope_28 : decode cL_envelope 28 = .ok (.if_icmp .ge 88, 3) := by decide +kernel
theorem dL_envelope_31 : decode cL_envelope 31 = .ok (.iload_n 0, 1) := by decide +kernel
theorem dL_envelope_32 : decode cL_envelope 32 = .ok (.iconst 1, 1) := by decide +kernel
theorem dL_envelope_33 : decode cL_envelope 33 = .ok (.iadd, 1) := by decide +kernel
theorem dL_envelope_34 : decode cL_envelope 34 = .ok (.istore 6, 2) := by decide +kernel
theorem dL_envelope_36 : decode cL_envelope 36 = .ok (.iload 6, 2) := by decide +kernel
theorem dL_envelope_38 : decode cL_envelope 38 = .ok (.bipush 100, 2) := by decide +kernel
theorem dL_envelope_40 : decode cL_envelope 40 = .ok (.if_icmp .gt 70, 3) := by decide +kernel
theorem dL_envelope_43 : decode cL_envelope 43 = .ok (.iload 6, 2) := by decide +kernel
theorem dL_envelope_45 : decode cL_envelope 45 = .ok (.iload_n 0, 1) := by decide +kernel
theorem dL_envelope_46 : decode cL_envelope 46 = .ok (.isub, 1) := by decide +kernel
theorem dL_envelope_47 : decode cL_envelope 47 = .ok (.iload 5, 2) := by decide +kernel
theorem dL_envelope_49 : decode cL_envelope 49 = .ok (.aload_n 1, 1) := by decide +kernel
theorem dL_envelope_50 : decode cL_envelope 50 = .ok (.aload_n 2, 1) := by decide +kernel
theorem dL_envelope_51 : decode cL_envelope 51 = .ok (.invokestatic 20, 3) := by decide +kernel
theorem dL_envelope_54 : decode cL_envelope 54 = .ok (.imul, 1) := by decide +kernel
theorem dL_envelope_55 : decode cL_envelope 55 = .ok (.iload_n 0, 1) := by decide +kernel
theorem dL_envelope_56 : decode cL_envelope 56 = .ok (.iload 5, 2) := by decide +kernel
theorem dL_envelope_58 : decode cL_envelope 58 = .ok (.isub, 1) := by decide +kernel
theorem dL_envelope_59 : decode cL_envelope 59 = .ok (.iload 6, 2) := by decide +kernel
theorem dL_envelope_61 : decode cL_envelope 61 = .ok (.aload_n 1, 1) := by decide +kernel
theorem dL_envelope_62 : decode cL_envelope 62 = .ok (.aload_n 2, 1) := by decide +kernel
theorem dL_envelope_63 : decode cL_envelope 63 = .ok (.invokestatic 20, 3) := by decide +kernel
theorem dL_envelope_66 : decode cL_envelope 66 = .ok (.imul, 1) := by decide +kernel
theorem dL_envelope_67 : decode cL_envelope 67 = .ok (.iadd, 1) := by decide +kernel
theorem dL_envelope_68 : decode cL_envelope 68 = .ok (.istore 7, 2) := by decide +kernel
theorem dL_envelope_70 : decode cL_envelope 70 = .ok (.iload 7, 2) := by decide +kernel
theorem dL_envelope_72 : decode cL_envelope 72 = .ok (.aload_n 3, 1) := by decide +kernel
theorem dL_envelope_73 : decode cL_envelope 73 = .ok (.iconst 1, 1) := by decide +kernel
theorem dL_envelope_74 : decode cL_envelope 74 = .ok (.iaload, 1) := by decide +kernel
theorem dL_envelope_75 : decode cL_envelope 75 = .ok (.imul, 1) := by decide +kernel
theorem dL_envelope_76 : decode cL_envelope 76 = .ok (.aload_n 3, 1) := by decide +kernel
theorem dL_envelope_77 : decode cL_envelope 77 = .ok (.iconst 0, 1) := by decide +kernel
theorem dL_envelope_78 : decode cL_envelope 78 = .ok (.iaload, 1) := by decide +kernel
theorem dL_envelope_79 : decode cL_envelope 79 = .ok (.iload 6, 2) := by decide +kernel
theorem dL_envelope_81 : decode cL_envelope 81 = .ok (.iload 5, 2) := by decide +kernel
theorem dL_envelope_83 : decode cL_envelope 83 = .ok (.isub, 1) := by decide +kernel
theorem dL_envelope_84 : decode cL_envelope 84 = .ok (.imul, 1) := by decide +kernel
theorem dL_envelope_85 : decode cL_envelope 85 = .ok (.if_icmp .gt 6, 3) := by decide +kernel
theorem dL_envelope_88 : decode cL_envelope 88 = .ok (.goto 16, 3) := by decide +kernel
theorem dL_envelope_91 : decode cL_envelope 91 = .ok (.aload_n 3, 1) := by decide +kernel
theorem dL_envelope_92 : decode cL_envelope 92 = .ok (.iconst 0, 1) := by decide +kernel
theorem dL_envelope_93 : decode cL_envelope 93 = .ok (.iload 7, 2) := by decide +kernel
theorem dL_envelope_95 : decode cL_envelope 95 = .ok (.iastore, 1) := by decide +kernel
theorem dL_envelope_96 : decode cL_envelope 96 = .ok (.aload_n 3, 1) := by decide +kernel
theorem dL_envelope_97 : decode cL_envelope 97 = .ok (.iconst 1, 1) := by decide +kernel
theorem dL_envelope_98 : decode cL_envelope 98 = .ok (.iload 6, 2) := by decide +kernel
theorem dL_envelope_100 : decode cL_envelope 100 = .ok (.iload 5, 2) := by decide +kernel
theorem dL_envelope_102 : decode cL_envelope 102 = .ok (.isub, 1) := by decide +kernel
theorem dL_envelope_103 : decode cL_envelope 103 = .ok (.iastore, 1) := by decide +kernel
theorem dL_envelope_104 : decode cL_envelope 104 = .ok (.iinc 6 1, 3) := by decide +kernel
theorem dL_envelope_107 : decode cL_envelope 107 = .ok (.goto (-71), 3) := by decide +kernel
theorem dL_envelope_110 : decode cL_envelope 110 = .ok (.iinc 5 1, 3) := by decide +kernel
theorem dL_envelope_113 : decode cL_envelope 113 = .ok (.goto (-88), 3) := by decide +kernel
theorem dL_envelope_116 : decode cL_envelope 116 = .ok (.iconst 0, 1) := by decide +kernel
theorem dL_envelope_117 : decode cL_envelope 117 = .ok (.istore 5, 2) := by decide +kernel
theorem dL_envelope_119 : decode cL_envelope 119 = .ok (.iconst 0, 1) := by decide +kernel
theorem dL_envelope_120 : decode cL_envelope 120 = .ok (.istore 6, 2) := by decide +kernel
theorem dL_envelope_122 : decode cL_envelope 122 = .ok (.iload 6, 2) := by decide +kernel
theorem dL_envelope_124 : decode cL_envelope 124 = .ok (.iload_n 0, 1) := by decide +kernel
theorem dL_envelope_125 : decode cL_envelope 125 = .ok (.if_icmp .ge 110, 3) := by decide +kernel
theorem dL_envelope_128 : decode cL_envelope 128 = .ok (.iload 5, 2) := by decide +kernel
theorem dL_envelope_130 : decode cL_envelope 130 = .ok (.ifCond .ne 105, 3) := by decide +kernel
theorem dL_envelope_133 : decode cL_envelope 133 = .ok (.iload_n 0, 1) := by decide +kernel
theorem dL_envelope_134 : decode cL_envelope 134 = .ok (.iconst 1, 1) := by decide +kernel
theorem dL_envelope_135 : decode cL_envelope 135 = .ok (.iadd, 1) := by decide +kernel
theorem dL_envelope_136 : decode cL_envelope 136 = .ok (.istore 7, 2) := by decide +kernel
theorem dL_envelope_138 : decode cL_envelope 138 = .ok (.iload 7, 2) := by decide +kernel
theorem dL_envelope_140 : decode cL_envelope 140 = .ok (.bipush 100, 2) := by decide +kernel
theorem dL_envelope_142 : decode cL_envelope 142 = .ok (.if_icmp .gt 87, 3) := by decide +kernel
theorem dL_envelope_145 : decode cL_envelope 145 = .ok (.iload 5, 2) := by decide +kernel
theorem dL_envelope_147 : decode cL_envelope 147 = .ok (.ifCond .ne 82, 3) := by decide +kernel
theorem dL_envelope_150 : decode cL_envelope 150 = .ok (.iload 7, 2) := by decide +kernel
theorem dL_envelope_152 : decode cL_envelope 152 = .ok (.iload_n 0, 1) := by decide +kernel
theorem dL_envelope_153 : decode cL_envelope 153 = .ok (.isub, 1) := by decide +kernel
theorem dL_envelope_154 : decode cL_envelope 154 = .ok (.iload 6, 2) := by decide +kernel
theorem dL_envelope_156 : decode cL_envelope 156 = .ok (.aload_n 1, 1) := by decide +kernel
theorem dL_envelope_157 : decode cL_envelope 157 = .ok (.aload_n 2, 1) := by decide +kernel
theorem dL_envelope_158 : decode cL_envelope 158 = .ok (.invokestatic 20, 3) := by decide +kernel
theorem dL_envelope_161 : decode cL_envelope 161 = .ok (.imul, 1) := by decide +kernel
theorem dL_envelope_162 : decode cL_envelope 162 = .ok (.iload_n 0, 1) := by decide +kernel
theorem dL_envelope_163 : decode cL_envelope 163 = .ok (.iload 6, 2) := by decide +kernel
theorem dL_envelope_165 : decode cL_envelope 165 = .ok (.isub, 1) := by decide +kernel
theorem dL_envelope_166 : decode cL_envelope 166 = .ok (.iload 7, 2) := by decide +kernel
theorem dL_envelope_168 : decode cL_envelope 168 = .ok (.aload_n 1, 1) := by decide +kernel
theorem dL_envelope_169 : decode cL_envelope 169 = .ok (.aload_n 2, 1) := by decide +kernel
theorem dL_envelope_170 : decode cL_envelope 170 = .ok (.invokestatic 20, 3) := by decide +kernel
theorem dL_envelope_173 : decode cL_envelope 173 = .ok (.imul, 1) := by decide +kernel
theorem dL_envelope_174 : decode cL_envelope 174 = .ok (.iadd, 1) := by decide +kernel
theorem dL_envelope_175 : decode cL_envelope 175 = .ok (.istore 8, 2) := by decide +kernel
theorem dL_envelope_177 : decode cL_envelope 177 = .ok (.iload 8, 2) := by decide +kernel
theorem dL_envelope_179 : decode cL_envelope 179 = .ok (.aload_n 3, 1) := by decide +kernel
theorem dL_envelope_180 : decode cL_envelope 180 = .ok (.iconst 1, 1) := by decide +kernel
theorem dL_envelope_181 : decode cL_envelope 181 = .ok (.iaload, 1) := by decide +kernel
theorem dL_envelope_182 : decode cL_envelope 182 = .ok (.imul, 1) := by decide +kernel
theorem dL_envelope_183 : decode cL_envelope 183 = .ok (.aload_n 3, 1) := by decide +kernel
theorem dL_envelope_184 : decode cL_envelope 184 = .ok (.iconst 0, 1) := by decide +kernel
theorem dL_envelope_185 : decode cL_envelope 185 = .ok (.iaload, 1) := by decide +kernel
theorem dL_envelope_186 : decode cL_envelope 186 = .ok (.iload 7, 2) := by decide +kernel
theorem dL_envelope_188 : decode cL_envelope 188 = .ok (.iload 6, 2) := by decide +kernel
theorem dL_envelope_190 : decode cL_envelope 190 = .ok (.isub, 1) := by decide +kernel
theorem dL_envelope_191 : decode cL_envelope 191 = .ok (.imul, 1) := by decide +kernel
theorem dL_envelope_192 : decode cL_envelope 192 = .ok (.if_icmp .ne 7, 3) := by decide +kernel
theorem dL_envelope_195 : decode cL_envelope 195 = .ok (.iconst 1, 1) := by decide +kernel
theorem dL_envelope_196 : decode cL_envelope 196 = .ok (.goto 4, 3) := by decide +kernel
theorem dL_envelope_199 : decode cL_envelope 199 = .ok (.iconst 0, 1) := by decide +kernel
theorem dL_envelope_200 : decode cL_envelope 200 = .ok (.istore 5, 2) := by decide +kernel
theorem dL_envelope_202 : decode cL_envelope 202 = .ok (.iload 5, 2) := by decide +kernel
theorem dL_envelope_204 : decode cL_envelope 204 = .ok (.ifCond .eq 15, 3) := by decide +kernel
theorem dL_envelope_207 : decode cL_envelope 207 = .ok (.iload 6, 2) := by decide +kernel
theorem dL_envelope_209 : decode cL_envelope 209 = .ok (.sipush 1000, 3) := by decide +kernel
theorem dL_envelope_212 : decode cL_envelope 212 = .ok (.iload 7, 2) := by decide +kernel
theorem dL_envelope_214 : decode cL_envelope 214 = .ok (.imul, 1) := by decide +kernel
theorem dL_envelope_215 : decode cL_envelope 215 = .ok (.iadd, 1) := by decide +kernel
theorem dL_envelope_216 : decode cL_envelope 216 = .ok (.goto 5, 3) := by decide +kernel
theorem dL_envelope_219 : decode cL_envelope 219 = .ok (.iload 4, 2) := by decide +kernel
theorem dL_envelope_221 : decode cL_envelope 221 = .ok (.istore 4, 2) := by decide +kernel
theorem dL_envelope_223 : decode cL_envelope 223 = .ok (.iinc 7 1, 3) := by decide +kernel
theorem dL_envelope_226 : decode cL_envelope 226 = .ok (.goto (-88), 3) := by decide +kernel
theorem dL_envelope_229 : decode cL_envelope 229 = .ok (.iinc 6 1, 3) := by decide +kernel
theorem dL_envelope_232 : decode cL_envelope 232 = .ok (.goto (-110), 3) := by decide +kernel
theorem dL_envelope_235 : decode cL_envelope 235 = .ok (.aload_n 3, 1) := by decide +kernel
theorem dL_envelope_236 : decode cL_envelope 236 = .ok (.iconst 0, 1) := by decide +kernel
theorem dL_envelope_237 : decode cL_envelope 237 = .ok (.iaload, 1) := by decide +kernel
theorem dL_envelope_238 : decode cL_envelope 238 = .ok (.aload_n 3, 1) := by decide +kernel
theorem dL_envelope_239 : decode cL_envelope 239 = .ok (.iconst 1, 1) := by decide +kernel
theorem dL_envelope_240 : decode cL_envelope 240 = .ok (.iaload, 1) := by decide +kernel
theorem dL_envelope_241 : decode cL_envelope 241 = .ok (.aload_n 3, 1) := by decide +kernel
theorem dL_envelope_242 : decode cL_envelope 242 = .ok (.invokestatic 23, 3) := by decide +kernel
theorem dL_envelope_245 : decode cL_envelope 245 = .ok (.iload 4, 2) := by decide +kernel
theorem dL_envelope_247 : decode cL_envelope 247 = .ok (.ireturn, 1) := by decide +kernel
theorem dL_tidy_0 : decode cL_tidy 0 = .ok (.iconst 0, 1) := by decide +kernel
theorem dL_tidy_1 : decode cL_tidy 1 = .ok (.istore 4, 2) := by decide +kernel
theorem dL_tidy_3 : decode cL_tidy 3 = .ok (.iconst 0, 1) := by decide +kernel
theorem dL_tidy_4 : decode cL_tidy 4 = .ok (.istore 5, 2) := by decide +kernel
theorem dL_tidy_6 : decode cL_tidy 6 = .ok (.iload 5, 2) := by decide +kernel
theorem dL_tidy_8 : decode cL_tidy 8 = .ok (.bipush 100, 2) := by decide +kernel
theorem dL_tidy_10 : decode cL_tidy 10 = .ok (.if_icmp .gt 78, 3) := by decide +kernel
theorem dL_tidy_13 : decode cL_tidy 13 = .ok (.iconst 0, 1) := by decide +kernel
theorem dL_tidy_14 : decode cL_tidy 14 = .ok (.istore 6, 2) := by decide +kernel
theorem dL_tidy_16 : decode cL_tidy 16 = .ok (.iconst 0, 1) := by decide +kernel
theorem dL_tidy_17 : decode cL_tidy 17 = .ok (.istore 7, 2) := by decide +kernel
theorem dL_tidy_19 : decode cL_tidy 19 = .ok (.iload 7, 2) := by decide +kernel
theorem dL_tidy_21 : decode cL_tidy 21 = .ok (.iload_n 0, 1) := by decide +kernel
theorem dL_tidy_22 : decode cL_tidy 22 = .ok (.if_icmp .ge 31, 3) := by decide +kernel
theorem dL_tidy_25 : decode cL_tidy 25 = .ok (.iload 6, 2) := by decide +kernel
theorem dL_tidy_27 : decode cL_tidy 27 = .ok (.aload_n 2, 1) := by decide +kernel
theorem dL_tidy_28 : decode cL_tidy 28 = .ok (.iload 7, 2) := by decide +kernel
theorem dL_tidy_30 : decode cL_tidy 30 = .ok (.iaload, 1) := by decide +kernel
theorem dL_tidy_31 : decode cL_tidy 31 = .ok (.iload 5, 2) := by decide +kernel
theorem dL_tidy_33 : decode cL_tidy 33 = .ok (.if_icmp .ne 10, 3) := by decide +kernel
theorem dL_tidy_36 : decode cL_tidy 36 = .ok (.aload_n 1, 1) := by decide +kernel
theorem dL_tidy_37 : decode cL_tidy 37 = .ok (.iload 7, 2) := by decide +kernel
theorem dL_tidy_39 : decode cL_tidy 39 = .ok (.iaload, 1) := by decide +kernel
theorem dL_tidy_40 : decode cL_tidy 40 = .ok (.goto 4, 3) := by decide +kernel
theorem dL_tidy_43 : decode cL_tidy 43 = .ok (.iconst 0, 1) := by decide +kernel
theorem dL_tidy_44 : decode cL_tidy 44 = .ok (.iadd, 1) := by decide +kernel
theorem dL_tidy_45 : decode cL_tidy 45 = .ok (.istore 6, 2) := by decide +kernel
theorem dL_tidy_47 : decode cL_tidy 47 = .ok (.iinc 7 1, 3) := by decide +kernel
theorem dL_tidy_50 : decode cL_tidy 50 = .ok (.goto (-31), 3) := by decide +kernel
theorem dL_tidy_53 : decode cL_tidy 53 = .ok (.iload 6, 2) := by decide +kernel
theorem dL_tidy_55 : decode cL_tidy 55 = .ok (.ifCond .ne 6, 3) := by decide +kernel
theorem dL_tidy_58 : decode cL_tidy 58 = .ok (.goto 24, 3) := by decide +kernel
theorem dL_tidy_61 : decode cL_tidy 61 = .ok (.aload_n 3, 1) := by decide +kernel
theorem dL_tidy_62 : decode cL_tidy 62 = .ok (.iconst 2, 1) := by decide +kernel
theorem dL_tidy_63 : decode cL_tidy 63 = .ok (.iload 4, 2) := by decide +kernel
theorem dL_tidy_65 : decode cL_tidy 65 = .ok (.imul, 1) := by decide +kernel
theorem dL_tidy_66 : decode cL_tidy 66 = .ok (.iload 6, 2) := by decide +kernel
theorem dL_tidy_68 : decode cL_tidy 68 = .ok (.iastore, 1) := by decide +kernel
theorem dL_tidy_69 : decode cL_tidy 69 = .ok (.aload_n 3, 1) := by decide +kernel
theorem dL_tidy_70 : decode cL_tidy 70 = .ok (.iconst 2, 1) := by decide +kernel
theorem dL_tidy_71 : decode cL_tidy 71 = .ok (.iload 4, 2) := by decide +kernel
theorem dL_tidy_73 : decode cL_tidy 73 = .ok (.iinc 4 1, 3) := by decide +kernel
theorem dL_tidy_76 : decode cL_tidy 76 = .ok (.imul, 1) := by decide +kernel
theorem dL_tidy_77 : decode cL_tidy 77 = .ok (.iconst 1, 1) := by decide +kernel
theorem dL_tidy_78 : decode cL_tidy 78 = .ok (.iadd, 1) := by decide +kernel
theorem dL_tidy_79 : decode cL_tidy 79 = .ok (.iload 5, 2) := by decide +kernel
theorem dL_tidy_81 : decode cL_tidy 81 = .ok (.iastore, 1) := by decide +kernel
theorem dL_tidy_82 : decode cL_tidy 82 = .ok (.iinc 5 1, 3) := by decide +kernel
theorem dL_tidy_85 : decode cL_tidy 85 = .ok (.goto (-79), 3) := by decide +kernel
theorem dL_tidy_88 : decode cL_tidy 88 = .ok (.iconst 0, 1) := by decide +kernel
theorem dL_tidy_89 : decode cL_tidy 89 = .ok (.istore 5, 2) := by decide +kernel
theorem dL_tidy_91 : decode cL_tidy 91 = .ok (.iconst 0, 1) := by decide +kernel
theorem dL_tidy_92 : decode cL_tidy 92 = .ok (.istore 6, 2) := by decide +kernel
theorem dL_tidy_94 : decode cL_tidy 94 = .ok (.iload 6, 2) := by decide +kernel
theorem dL_tidy_96 : decode cL_tidy 96 = .ok (.iload 4, 2) := by decide +kernel
theorem dL_tidy_98 : decode cL_tidy 98 = .ok (.if_icmp .ge 22, 3) := by decide +kernel
theorem dL_tidy_101 : decode cL_tidy 101 = .ok (.aload_n 3, 1) := by decide +kernel
theorem dL_tidy_102 : decode cL_tidy 102 = .ok (.iconst 2, 1) := by decide +kernel
theorem dL_tidy_103 : decode cL_tidy 103 = .ok (.iload 6, 2) := by decide +kernel
theorem dL_tidy_105 : decode cL_tidy 105 = .ok (.imul, 1) := by decide +kernel
theorem dL_tidy_106 : decode cL_tidy 106 = .ok (.iaload, 1) := by decide +kernel
theorem dL_tidy_107 : decode cL_tidy 107 = .ok (.iload 5, 2) := by decide +kernel
theorem dL_tidy_109 : decode cL_tidy 109 = .ok (.invokestatic 10, 3) := by decide +kernel
theorem dL_tidy_112 : decode cL_tidy 112 = .ok (.istore 5, 2) := by decide +kernel
theorem dL_tidy_114 : decode cL_tidy 114 = .ok (.iinc 6 1, 3) := by decide +kernel
theorem dL_tidy_117 : decode cL_tidy 117 = .ok (.goto (-23), 3) := by decide +kernel
theorem dL_tidy_120 : decode cL_tidy 120 = .ok (.iload 4, 2) := by decide +kernel
theorem dL_tidy_122 : decode cL_tidy 122 = .ok (.bipush 7, 2) := by decide +kernel
theorem dL_tidy_124 : decode cL_tidy 124 = .ok (.if_icmp .ge 7, 3) := by decide +kernel
theorem dL_tidy_127 : decode cL_tidy 127 = .ok (.iconst 1, 1) := by decide +kernel
theorem dL_tidy_128 : decode cL_tidy 128 = .ok (.goto 4, 3) := by decide +kernel
theorem dL_tidy_131 : decode cL_tidy 131 = .ok (.iconst 0, 1) := by decide +kernel
theorem dL_tidy_132 : decode cL_tidy 132 = .ok (.istore 6, 2) := by decide +kernel
theorem dL_tidy_134 : decode cL_tidy 134 = .ok (.iconst 0, 1) := by decide +kernel
theorem dL_tidy_135 : decode cL_tidy 135 = .ok (.istore 7, 2) := by decide +kernel
theorem dL_tidy_137 : decode cL_tidy 137 = .ok (.iload 7, 2) := by decide +kernel
theorem dL_tidy_139 : decode cL_tidy 139 = .ok (.iload 4, 2) := by decide +kernel
theorem dL_tidy_141 : decode cL_tidy 141 = .ok (.if_icmp .ge 44, 3) := by decide +kernel
theorem dL_tidy_144 : decode cL_tidy 144 = .ok (.aload_n 3, 1) := by decide +kernel
theorem dL_tidy_145 : decode cL_tidy 145 = .ok (.iconst 2, 1) := by decide +kernel
theorem dL_tidy_146 : decode cL_tidy 146 = .ok (.iload 7, 2) := by decide +kernel
theorem dL_tidy_148 : decode cL_tidy 148 = .ok (.imul, 1) := by decide +kernel
theorem dL_tidy_149 : decode cL_tidy 149 = .ok (.dup2, 1) := by decide +kernel
theorem dL_tidy_150 : decode cL_tidy 150 = .ok (.iaload, 1) := by decide +kernel
theorem dL_tidy_151 : decode cL_tidy 151 = .ok (.iload 5, 2) := by decide +kernel
theorem dL_tidy_153 : decode cL_tidy 153 = .ok (.idiv, 1) := by decide +kernel
theorem dL_tidy_154 : decode cL_tidy 154 = .ok (.iastore, 1) := by decide +kernel
theorem dL_tidy_155 : decode cL_tidy 155 = .ok (.iload 6, 2) := by decide +kernel
theorem dL_tidy_157 : decode cL_tidy 157 = .ok (.ifCond .eq 19, 3) := by decide +kernel
theorem dL_tidy_160 : decode cL_tidy 160 = .ok (.aload_n 3, 1) := by decide +kernel
theorem dL_tidy_161 : decode cL_tidy 161 = .ok (.iconst 2, 1) := by decide +kernel
theorem dL_tidy_162 : decode cL_tidy 162 = .ok (.iload 7, 2) := by decide +kernel
theorem dL_tidy_164 : decode cL_tidy 164 = .ok (.imul, 1) := by decide +kernel
theorem dL_tidy_165 : decode cL_tidy 165 = .ok (.iaload, 1) := by decide +kernel
theorem dL_tidy_166 : decode cL_tidy 166 = .ok (.sipush 1000, 3) := by decide +kernel
theorem dL_tidy_169 : decode cL_tidy 169 = .ok (.if_icmp .ge 7, 3) := by decide +kernel
theorem dL_tidy_172 : decode cL_tidy 172 = .ok (.iconst 1, 1) := by decide +kernel
theorem dL_tidy_173 : decode cL_tidy 173 = .ok (.goto 4, 3) := by decide +kernel
theorem dL_tidy_176 : decode cL_tidy 176 = .ok (.iconst 0, 1) := by decide +kernel
theorem dL_tidy_177 : decode cL_tidy 177 = .ok (.istore 6, 2) := by decide +kernel
theorem dL_tidy_179 : decode cL_tidy 179 = .ok (.iinc 7 1, 3) := by decide +kernel
theorem dL_tidy_182 : decode cL_tidy 182 = .ok (.goto (-45), 3) := by decide +kernel
theorem dL_tidy_185 : decode cL_tidy 185 = .ok (.aload_n 3, 1) := by decide +kernel
theorem dL_tidy_186 : decode cL_tidy 186 = .ok (.bipush 16, 2) := by decide +kernel
theorem dL_tidy_188 : decode cL_tidy 188 = .ok (.iload 4, 2) := by decide +kernel
theorem dL_tidy_190 : decode cL_tidy 190 = .ok (.iastore, 1) := by decide +kernel
theorem dL_tidy_191 : decode cL_tidy 191 = .ok (.iload 6, 2) := by decide +kernel
theorem dL_tidy_193 : decode cL_tidy 193 = .ok (.ireturn, 1) := by decide +kernel
theorem dL_take_0 : decode cL_take 0 = .ok (.aload_n 1, 1) := by decide +kernel
theorem dL_take_1 : decode cL_take 1 = .ok (.iconst 2, 1) := by decide +kernel
theorem dL_take_2 : decode cL_take 2 = .ok (.aload_n 0, 1) := by decide +kernel
theorem dL_take_3 : decode cL_take 3 = .ok (.bipush 16, 2) := by decide +kernel
theorem dL_take_5 : decode cL_take 5 = .ok (.iaload, 1) := by decide +kernel
theorem dL_take_6 : decode cL_take 6 = .ok (.iastore, 1) := by decide +kernel
theorem dL_take_7 : decode cL_take 7 = .ok (.iconst 0, 1) := by decide +kernel
theorem dL_take_8 : decode cL_take 8 = .ok (.istore 4, 2) := by decide +kernel
theorem dL_take_10 : decode cL_take 10 = .ok (.iload 4, 2) := by decide +kernel
theorem dL_take_12 : decode cL_take 12 = .ok (.aload_n 1, 1) := by decide +kernel
theorem dL_take_13 : decode cL_take 13 = .ok (.iconst 2, 1) := by decide +kernel
theorem dL_take_14 : decode cL_take 14 = .ok (.iaload, 1) := by decide +kernel
theorem dL_take_15 : decode cL_take 15 = .ok (.if_icmp .ge 31, 3) := by decide +kernel
theorem dL_take_18 : decode cL_take 18 = .ok (.aload_n 2, 1) := by decide +kernel
theorem dL_take_19 : decode cL_take 19 = .ok (.iload 4, 2) := by decide +kernel
theorem dL_take_21 : decode cL_take 21 = .ok (.aload_n 0, 1) := by decide +kernel
theorem dL_take_22 : decode cL_take 22 = .ok (.iconst 2, 1) := by decide +kernel
theorem dL_take_23 : decode cL_take 23 = .ok (.iload 4, 2) := by decide +kernel
theorem dL_take_25 : decode cL_take 25 = .ok (.imul, 1) := by decide +kernel
theorem dL_take_26 : decode cL_take 26 = .ok (.iaload, 1) := by decide +kernel
theorem dL_take_27 : decode cL_take 27 = .ok (.iastore, 1) := by decide +kernel
theorem dL_take_28 : decode cL_take 28 = .ok (.aload_n 3, 1) := by decide +kernel
theorem dL_take_29 : decode cL_take 29 = .ok (.iload 4, 2) := by decide +kernel
theorem dL_take_31 : decode cL_take 31 = .ok (.aload_n 0, 1) := by decide +kernel
theorem dL_take_32 : decode cL_take 32 = .ok (.iconst 2, 1) := by decide +kernel
theorem dL_take_33 : decode cL_take 33 = .ok (.iload 4, 2) := by decide +kernel
theorem dL_take_35 : decode cL_take 35 = .ok (.imul, 1) := by decide +kernel
theorem dL_take_36 : decode cL_take 36 = .ok (.iconst 1, 1) := by decide +kernel
theorem dL_take_37 : decode cL_take 37 = .ok (.iadd, 1) := by decide +kernel
theorem dL_take_38 : decode cL_take 38 = .ok (.iaload, 1) := by decide +kernel
theorem dL_take_39 : decode cL_take 39 = .ok (.iastore, 1) := by decide +kernel
theorem dL_take_40 : decode cL_take 40 = .ok (.iinc 4 1, 3) := by decide +kernel
theorem dL_take_43 : decode cL_take 43 = .ok (.goto (-33), 3) := by decide +kernel
theorem dL_take_46 : decode cL_take 46 = .ok (.return_, 1) := by decide +kernel
theorem dL_same_0 : decode cL_same 0 = .ok (.iconst 0, 1) := by decide +kernel
theorem dL_same_1 : decode cL_same 1 = .ok (.istore 7, 2) := by decide +kernel
theorem dL_same_3 : decode cL_same 3 = .ok (.iconst 0, 1) := by decide +kernel
theorem dL_same_4 : decode cL_same 4 = .ok (.istore 8, 2) := by decide +kernel
theorem dL_same_6 : decode cL_same 6 = .ok (.iconst 0, 1) := by decide +kernel
theorem dL_same_7 : decode cL_same 7 = .ok (.istore 9, 2) := by decide +kernel
theorem dL_same_9 : decode cL_same 9 = .ok (.iload 9, 2) := by decide +kernel
theorem dL_same_11 : decode cL_same 11 = .ok (.aload_n 2, 1) := by decide +kernel
theorem dL_same_12 : decode cL_same 12 = .ok (.iconst 2, 1) := by decide +kernel
theorem dL_same_13 : decode cL_same 13 = .ok (.iaload, 1) := by decide +kernel
theorem dL_same_14 : decode cL_same 14 = .ok (.if_icmp .ge 116, 3) := by decide +kernel
theorem dL_same_17 : decode cL_same 17 = .ok (.iload 7, 2) := by decide +kernel
theorem dL_same_19 : decode cL_same 19 = .ok (.aload 4, 2) := by decide +kernel
theorem dL_same_21 : decode cL_same 21 = .ok (.iload 9, 2) := by decide +kernel
theorem dL_same_23 : decode cL_same 23 = .ok (.iaload, 1) := by decide +kernel
theorem dL_same_24 : decode cL_same 24 = .ok (.iadd, 1) := by decide +kernel
theorem dL_same_25 : decode cL_same 25 = .ok (.istore 7, 2) := by decide +kernel
theorem dL_same_27 : decode cL_same 27 = .ok (.iload 8, 2) := by decide +kernel
theorem dL_same_29 : decode cL_same 29 = .ok (.aload 4, 2) := by decide +kernel
theorem dL_same_31 : decode cL_same 31 = .ok (.iload 9, 2) := by decide +kernel
theorem dL_same_33 : decode cL_same 33 = .ok (.iaload, 1) := by decide +kernel
theorem dL_same_34 : decode cL_same 34 = .ok (.aload 5, 2) := by decide +kernel
theorem dL_same_36 : decode cL_same 36 = .ok (.iload 9, 2) := by decide +kernel
theorem dL_same_38 : decode cL_same 38 = .ok (.iaload, 1) := by decide +kernel
theorem dL_same_39 : decode cL_same 39 = .ok (.aload_n 2, 1) := by decide +kernel
theorem dL_same_40 : decode cL_same 40 = .ok (.aload_n 3, 1) := by decide +kernel
theorem dL_same_41 : decode cL_same 41 = .ok (.invokestatic 20, 3) := by decide +kernel
theorem dL_same_44 : decode cL_same 44 = .ok (.imul, 1) := by decide +kernel
theorem dL_same_45 : decode cL_same 45 = .ok (.iadd, 1) := by decide +kernel
theorem dL_same_46 : decode cL_same 46 = .ok (.istore 8, 2) := by decide +kernel
theorem dL_same_48 : decode cL_same 48 = .ok (.aload_n 0, 1) := by decide +kernel
theorem dL_same_49 : decode cL_same 49 = .ok (.iload 9, 2) := by decide +kernel
theorem dL_same_51 : decode cL_same 51 = .ok (.iconst 0, 1) := by decide +kernel
theorem dL_same_52 : decode cL_same 52 = .ok (.invokevirtual 27, 3) := by decide +kernel
theorem dL_same_55 : decode cL_same 55 = .ok (.aload 4, 2) := by decide +kernel
theorem dL_same_57 : decode cL_same 57 = .ok (.iload 9, 2) := by decide +kernel
theorem dL_same_59 : decode cL_same 59 = .ok (.iaload, 1) := by decide +kernel
theorem dL_same_60 : decode cL_same 60 = .ok (.if_icmp .ne 62, 3) := by decide +kernel
theorem dL_same_63 : decode cL_same 63 = .ok (.aload_n 0, 1) := by decide +kernel
theorem dL_same_64 : decode cL_same 64 = .ok (.iload 9, 2) := by decide +kernel
theorem dL_same_66 : decode cL_same 66 = .ok (.iconst 1, 1) := by decide +kernel
theorem dL_same_67 : decode cL_same 67 = .ok (.invokevirtual 27, 3) := by decide +kernel
theorem dL_same_70 : decode cL_same 70 = .ok (.aload 5, 2) := by decide +kernel
theorem dL_same_72 : decode cL_same 72 = .ok (.iload 9, 2) := by decide +kernel
theorem dL_same_74 : decode cL_same 74 = .ok (.iaload, 1) := by decide +kernel
theorem dL_same_75 : decode cL_same 75 = .ok (.if_icmp .ne 47, 3) := by decide +kernel
theorem dL_same_78 : decode cL_same 78 = .ok (.aload_n 0, 1) := by decide +kernel
theorem dL_same_79 : decode cL_same 79 = .ok (.iload 9, 2) := by decide +kernel
theorem dL_same_81 : decode cL_same 81 = .ok (.iconst 2, 1) := by decide +kernel
theorem dL_same_82 : decode cL_same 82 = .ok (.invokevirtual 27, 3) := by decide +kernel
theorem dL_same_85 : decode cL_same 85 = .ok (.aload 5, 2) := by decide +kernel
theorem dL_same_87 : decode cL_same 87 = .ok (.iload 9, 2) := by decide +kernel
theorem dL_same_89 : decode cL_same 89 = .ok (.iaload, 1) := by decide +kernel
theorem dL_same_90 : decode cL_same 90 = .ok (.aload_n 2, 1) := by decide +kernel
theorem dL_same_91 : decode cL_same 91 = .ok (.aload_n 3, 1) := by decide +kernel
theorem dL_same_92 : decode cL_same 92 = .ok (.invokestatic 16, 3) := by decide +kernel
theorem dL_same_95 : decode cL_same 95 = .ok (.if_icmp .ne 27, 3) := by decide +kernel
theorem dL_same_98 : decode cL_same 98 = .ok (.aload_n 0, 1) := by decide +kernel
theorem dL_same_99 : decode cL_same 99 = .ok (.iload 9, 2) := by decide +kernel
theorem dL_same_101 : decode cL_same 101 = .ok (.iconst 3, 1) := by decide +kernel
theorem dL_same_102 : decode cL_same 102 = .ok (.invokevirtual 27, 3) := by decide +kernel
theorem dL_same_105 : decode cL_same 105 = .ok (.aload 5, 2) := by decide +kernel
theorem dL_same_107 : decode cL_same 107 = .ok (.iload 9, 2) := by decide +kernel
theorem dL_same_109 : decode cL_same 109 = .ok (.iaload, 1) := by decide +kernel
theorem dL_same_110 : decode cL_same 110 = .ok (.aload_n 2, 1) := by decide +kernel
theorem dL_same_111 : decode cL_same 111 = .ok (.aload_n 3, 1) := by decide +kernel
theorem dL_same_112 : decode cL_same 112 = .ok (.invokestatic 20, 3) := by decide +kernel
theorem dL_same_115 : decode cL_same 115 = .ok (.sipush 1000, 3) := by decide +kernel
theorem dL_same_118 : decode cL_same 118 = .ok (.iadd, 1) := by decide +kernel
theorem dL_same_119 : decode cL_same 119 = .ok (.if_icmp .eq 5, 3) := by decide +kernel
theorem dL_same_122 : decode cL_same 122 = .ok (.iconst 0, 1) := by decide +kernel
theorem dL_same_123 : decode cL_same 123 = .ok (.ireturn, 1) := by decide +kernel
theorem dL_same_124 : decode cL_same 124 = .ok (.iinc 9 1, 3) := by decide +kernel
theorem dL_same_127 : decode cL_same 127 = .ok (.goto (-118), 3) := by decide +kernel
theorem dL_same_130 : decode cL_same 130 = .ok (.iconst 0, 1) := by decide +kernel
theorem dL_same_131 : decode cL_same 131 = .ok (.istore 9, 2) := by decide +kernel
theorem dL_same_133 : decode cL_same 133 = .ok (.iload 9, 2) := by decide +kernel
theorem dL_same_135 : decode cL_same 135 = .ok (.aload_n 2, 1) := by decide +kernel
theorem dL_same_136 : decode cL_same 136 = .ok (.iconst 1, 1) := by decide +kernel
theorem dL_same_137 : decode cL_same 137 = .ok (.iaload, 1) := by decide +kernel
theorem dL_same_138 : decode cL_same 138 = .ok (.if_icmp .ge 234, 3) := by decide +kernel
theorem dL_same_141 : decode cL_same 141 = .ok (.iconst 0, 1) := by decide +kernel
theorem dL_same_142 : decode cL_same 142 = .ok (.istore 10, 2) := by decide +kernel
theorem dL_same_144 : decode cL_same 144 = .ok (.iconst 0, 1) := by decide +kernel
theorem dL_same_145 : decode cL_same 145 = .ok (.istore 11, 2) := by decide +kernel
theorem dL_same_147 : decode cL_same 147 = .ok (.iconst 0, 1) := by decide +kernel
theorem dL_same_148 : decode cL_same 148 = .ok (.istore 12, 2) := by decide +kernel
theorem dL_same_150 : decode cL_same 150 = .ok (.iload 12, 2) := by decide +kernel
theorem dL_same_152 : decode cL_same 152 = .ok (.aload_n 2, 1) := by decide +kernel
theorem dL_same_153 : decode cL_same 153 = .ok (.iconst 2, 1) := by decide +kernel
theorem dL_same_154 : decode cL_same 154 = .ok (.iaload, 1) := by decide +kernel
theorem dL_same_155 : decode cL_same 155 = .ok (.if_icmp .ge 63, 3) := by decide +kernel
theorem dL_same_158 : decode cL_same 158 = .ok (.aload 5, 2) := by decide +kernel
theorem dL_same_160 : decode cL_same 160 = .ok (.iload 12, 2) := by decide +kernel
theorem dL_same_162 : decode cL_same 162 = .ok (.iaload, 1) := by decide +kernel
theorem dL_same_163 : decode cL_same 163 = .ok (.aload_n 3, 1) := by decide +kernel
theorem dL_same_164 : decode cL_same 164 = .ok (.iconst 4, 1) := by decide +kernel
theorem dL_same_165 : decode cL_same 165 = .ok (.iload 9, 2) := by decide +kernel
theorem dL_same_167 : decode cL_same 167 = .ok (.imul, 1) := by decide +kernel
theorem dL_same_168 : decode cL_same 168 = .ok (.iconst 1, 1) := by decide +kernel
theorem dL_same_169 : decode cL_same 169 = .ok (.iadd, 1) := by decide +kernel
theorem dL_same_170 : decode cL_same 170 = .ok (.iaload, 1) := by decide +kernel
theorem dL_same_171 : decode cL_same 171 = .ok (.imul, 1) := by decide +kernel
theorem dL_same_172 : decode cL_same 172 = .ok (.bipush 100, 2) := by decide +kernel
theorem dL_same_174 : decode cL_same 174 = .ok (.aload 5, 2) := by decide +kernel
theorem dL_same_176 : decode cL_same 176 = .ok (.iload 12, 2) := by decide +kernel
theorem dL_same_178 : decode cL_same 178 = .ok (.iaload, 1) := by decide +kernel
theorem dL_same_179 : decode cL_same 179 = .ok (.isub, 1) := by decide +kernel
theorem dL_same_180 : decode cL_same 180 = .ok (.aload_n 3, 1) := by decide +kernel
theorem dL_same_181 : decode cL_same 181 = .ok (.iconst 4, 1) := by decide +kernel
theorem dL_same_182 : decode cL_same 182 = .ok (.iload 9, 2) := by decide +kernel
theorem dL_same_184 : decode cL_same 184 = .ok (.imul, 1) := by decide +kernel
theorem dL_same_185 : decode cL_same 185 = .ok (.iaload, 1) := by decide +kernel
theorem dL_same_186 : decode cL_same 186 = .ok (.imul, 1) := by decide +kernel
theorem dL_same_187 : decode cL_same 187 = .ok (.isub, 1) := by decide +kernel
theorem dL_same_188 : decode cL_same 188 = .ok (.istore 13, 2) := by decide +kernel
theorem dL_same_190 : decode cL_same 190 = .ok (.iload 10, 2) := by decide +kernel
theorem dL_same_192 : decode cL_same 192 = .ok (.iload 13, 2) := by decide +kernel
theorem dL_same_194 : decode cL_same 194 = .ok (.ifCond .le 14, 3) := by decide +kernel
theorem dL_same_197 : decode cL_same 197 = .ok (.aload 4, 2) := by decide +kernel
theorem dL_same_199 : decode cL_same 199 = .ok (.iload 12, 2) := by decide +kernel
theorem dL_same_201 : decode cL_same 201 = .ok (.iaload, 1) := by decide +kernel
theorem dL_same_202 : decode cL_same 202 = .ok (.iload 13, 2) := by decide +kernel
theorem dL_same_204 : decode cL_same 204 = .ok (.imul, 1) := by decide +kernel
theorem dL_same_205 : decode cL_same 205 = .ok (.goto 4, 3) := by decide +kernel
theorem dL_same_208 : decode cL_same 208 = .ok (.iconst 0, 1) := by decide +kernel
theorem dL_same_209 : decode cL_same 209 = .ok (.iadd, 1) := by decide +kernel
theorem dL_same_210 : decode cL_same 210 = .ok (.istore 10, 2) := by decide +kernel
theorem dL_same_212 : decode cL_same 212 = .ok (.iinc 12 1, 3) := by decide +kernel
theorem dL_same_215 : decode cL_same 215 = .ok (.goto (-65), 3) := by decide +kernel
theorem dL_same_218 : decode cL_same 218 = .ok (.iload 11, 2) := by decide +kernel
theorem dL_same_220 : decode cL_same 220 = .ok (.aload_n 2, 1) := by decide +kernel
theorem dL_same_221 : decode cL_same 221 = .ok (.aload_n 3, 1) := by decide +kernel
theorem dL_same_222 : decode cL_same 222 = .ok (.invokestatic 16, 3) := by decide +kernel
theorem dL_same_225 : decode cL_same 225 = .ok (.iload 9, 2) := by decide +kernel
theorem dL_same_227 : decode cL_same 227 = .ok (.ishr, 1) := by decide +kernel
theorem dL_same_228 : decode cL_same 228 = .ok (.iconst 1, 1) := by decide +kernel
theorem dL_same_229 : decode cL_same 229 = .ok (.iand, 1) := by decide +kernel
theorem dL_same_230 : decode cL_same 230 = .ok (.ifCond .ne 9, 3) := by decide +kernel
theorem dL_same_233 : decode cL_same 233 = .ok (.iinc 11 1, 3) := by decide +kernel
theorem dL_same_236 : decode cL_same 236 = .ok (.goto (-18), 3) := by decide +kernel
theorem dL_same_239 : decode cL_same 239 = .ok (.iload 10, 2) := by decide +kernel
theorem dL_same_241 : decode cL_same 241 = .ok (.bipush 100, 2) := by decide +kernel
theorem dL_same_243 : decode cL_same 243 = .ok (.iload 7, 2) := by decide +kernel
theorem dL_same_245 : decode cL_same 245 = .ok (.imul, 1) := by decide +kernel
theorem dL_same_246 : decode cL_same 246 = .ok (.aload 6, 2) := by decide +kernel
theorem dL_same_248 : decode cL_same 248 = .ok (.invokestatic 23, 3) := by decide +kernel
theorem dL_same_251 : decode cL_same 251 = .ok (.aload_n 0, 1) := by decide +kernel
theorem dL_same_252 : decode cL_same 252 = .ok (.iload 9, 2) := by decide +kernel
theorem dL_same_254 : decode cL_same 254 = .ok (.iconst 0, 1) := by decide +kernel
theorem dL_same_255 : decode cL_same 255 = .ok (.invokevirtual 32, 3) := by decide +kernel
theorem dL_same_258 : decode cL_same 258 = .ok (.aload_n 3, 1) := by decide +kernel
theorem dL_same_259 : decode cL_same 259 = .ok (.iconst 4, 1) := by decide +kernel
theorem dL_same_260 : decode cL_same 260 = .ok (.iload 9, 2) := by decide +kernel
theorem dL_same_262 : decode cL_same 262 = .ok (.imul, 1) := by decide +kernel
theorem dL_same_263 : decode cL_same 263 = .ok (.iaload, 1) := by decide +kernel
theorem dL_same_264 : decode cL_same 264 = .ok (.if_icmp .ne 100, 3) := by decide +kernel
theorem dL_same_267 : decode cL_same 267 = .ok (.aload_n 0, 1) := by decide +kernel
theorem dL_same_268 : decode cL_same 268 = .ok (.iload 9, 2) := by decide +kernel
theorem dL_same_270 : decode cL_same 270 = .ok (.iconst 1, 1) := by decide +kernel
theorem dL_same_271 : decode cL_same 271 = .ok (.invokevirtual 32, 3) := by decide +kernel
theorem dL_same_274 : decode cL_same 274 = .ok (.aload_n 3, 1) := by decide +kernel
theorem dL_same_275 : decode cL_same 275 = .ok (.iconst 4, 1) := by decide +kernel
theorem dL_same_276 : decode cL_same 276 = .ok (.iload 9, 2) := by decide +kernel
theorem dL_same_278 : decode cL_same 278 = .ok (.imul, 1) := by decide +kernel
theorem dL_same_279 : decode cL_same 279 = .ok (.iconst 1, 1) := by decide +kernel
theorem dL_same_280 : decode cL_same 280 = .ok (.iadd, 1) := by decide +kernel
theorem dL_same_281 : decode cL_same 281 = .ok (.iaload, 1) := by decide +kernel
theorem dL_same_282 : decode cL_same 282 = .ok (.if_icmp .ne 82, 3) := by decide +kernel
theorem dL_same_285 : decode cL_same 285 = .ok (.aload_n 0, 1) := by decide +kernel
theorem dL_same_286 : decode cL_same 286 = .ok (.iload 9, 2) := by decide +kernel
theorem dL_same_288 : decode cL_same 288 = .ok (.iconst 2, 1) := by decide +kernel
theorem dL_same_289 : decode cL_same 289 = .ok (.invokevirtual 32, 3) := by decide +kernel
theorem dL_same_292 : decode cL_same 292 = .ok (.aload_n 3, 1) := by decide +kernel
theorem dL_same_293 : decode cL_same 293 = .ok (.iconst 4, 1) := by decide +kernel
theorem dL_same_294 : decode cL_same 294 = .ok (.iload 9, 2) := by decide +kernel
theorem dL_same_296 : decode cL_same 296 = .ok (.imul, 1) := by decide +kernel
theorem dL_same_297 : decode cL_same 297 = .ok (.iconst 2, 1) := by decide +kernel
theorem dL_same_298 : decode cL_same 298 = .ok (.iadd, 1) := by decide +kernel
theorem dL_same_299 : decode cL_same 299 = .ok (.iaload, 1) := by decide +kernel
theorem dL_same_300 : decode cL_same 300 = .ok (.if_icmp .ne 64, 3) := by decide +kernel
theorem dL_same_303 : decode cL_same 303 = .ok (.aload_n 0, 1) := by decide +kernel
theorem dL_same_304 : decode cL_same 304 = .ok (.iload 9, 2) := by decide +kernel
theorem dL_same_306 : decode cL_same 306 = .ok (.iconst 3, 1) := by decide +kernel
theorem dL_same_307 : decode cL_same 307 = .ok (.invokevirtual 32, 3) := by decide +kernel
theorem dL_same_310 : decode cL_same 310 = .ok (.aload_n 3, 1) := by decide +kernel
theorem dL_same_311 : decode cL_same 311 = .ok (.iconst 4, 1) := by decide +kernel
theorem dL_same_312 : decode cL_same 312 = .ok (.iload 9, 2) := by decide +kernel
theorem dL_same_314 : decode cL_same 314 = .ok (.imul, 1) := by decide +kernel
theorem dL_same_315 : decode cL_same 315 = .ok (.iconst 3, 1) := by decide +kernel
theorem dL_same_316 : decode cL_same 316 = .ok (.iadd, 1) := by decide +kernel
theorem dL_same_317 : decode cL_same 317 = .ok (.iaload, 1) := by decide +kernel
theorem dL_same_318 : decode cL_same 318 = .ok (.bipush 100, 2) := by decide +kernel
theorem dL_same_320 : decode cL_same 320 = .ok (.iadd, 1) := by decide +kernel
theorem dL_same_321 : decode cL_same 321 = .ok (.if_icmp .ne 43, 3) := by decide +kernel
theorem dL_same_324 : decode cL_same 324 = .ok (.aload_n 0, 1) := by decide +kernel
theorem dL_same_325 : decode cL_same 325 = .ok (.iload 9, 2) := by decide +kernel
theorem dL_same_327 : decode cL_same 327 = .ok (.iconst 4, 1) := by decide +kernel
theorem dL_same_328 : decode cL_same 328 = .ok (.invokevirtual 32, 3) := by decide +kernel
theorem dL_same_331 : decode cL_same 331 = .ok (.iload 11, 2) := by decide +kernel
theorem dL_same_333 : decode cL_same 333 = .ok (.if_icmp .ne 31, 3) := by decide +kernel
theorem dL_same_336 : decode cL_same 336 = .ok (.aload_n 0, 1) := by decide +kernel
theorem dL_same_337 : decode cL_same 337 = .ok (.iload 9, 2) := by decide +kernel
theorem dL_same_339 : decode cL_same 339 = .ok (.iconst 0, 1) := by decide +kernel
theorem dL_same_340 : decode cL_same 340 = .ok (.invokevirtual 35, 3) := by decide +kernel
theorem dL_same_343 : decode cL_same 343 = .ok (.aload 6, 2) := by decide +kernel
theorem dL_same_345 : decode cL_same 345 = .ok (.iconst 0, 1) := by decide +kernel
theorem dL_same_346 : decode cL_same 346 = .ok (.iaload, 1) := by decide +kernel
theorem dL_same_347 : decode cL_same 347 = .ok (.if_icmp .ne 17, 3) := by decide +kernel
theorem dL_same_350 : decode cL_same 350 = .ok (.aload_n 0, 1) := by decide +kernel
theorem dL_same_351 : decode cL_same 351 = .ok (.iload 9, 2) := by decide +kernel
theorem dL_same_353 : decode cL_same 353 = .ok (.iconst 1, 1) := by decide +kernel
theorem dL_same_354 : decode cL_same 354 = .ok (.invokevirtual 35, 3) := by decide +kernel
theorem dL_same_357 : decode cL_same 357 = .ok (.aload 6, 2) := by decide +kernel
theorem dL_same_359 : decode cL_same 359 = .ok (.iconst 1, 1) := by decide +kernel
theorem dL_same_360 : decode cL_same 360 = .ok (.iaload, 1) := by decide +kernel
theorem dL_same_361 : decode cL_same 361 = .ok (.if_icmp .eq 5, 3) := by decide +kernel
theorem dL_same_364 : decode cL_same 364 = .ok (.iconst 0, 1) := by decide +kernel
theorem dL_same_365 : decode cL_same 365 = .ok (.ireturn, 1) := by decide +kernel
theorem dL_same_366 : decode cL_same 366 = .ok (.iinc 9 1, 3) := by decide +kernel
theorem dL_same_369 : decode cL_same 369 = .ok (.goto (-236), 3) := by decide +kernel
theorem dL_same_372 : decode cL_same 372 = .ok (.iload 8, 2) := by decide +kernel
theorem dL_same_374 : decode cL_same 374 = .ok (.iload 7, 2) := by decide +kernel
theorem dL_same_376 : decode cL_same 376 = .ok (.aload 6, 2) := by decide +kernel
theorem dL_same_378 : decode cL_same 378 = .ok (.invokestatic 23, 3) := by decide +kernel
theorem dL_same_381 : decode cL_same 381 = .ok (.aload 6, 2) := by decide +kernel
theorem dL_same_383 : decode cL_same 383 = .ok (.iconst 0, 1) := by decide +kernel
theorem dL_same_384 : decode cL_same 384 = .ok (.iaload, 1) := by decide +kernel
theorem dL_same_385 : decode cL_same 385 = .ok (.istore 9, 2) := by decide +kernel
theorem dL_same_387 : decode cL_same 387 = .ok (.aload 6, 2) := by decide +kernel
theorem dL_same_389 : decode cL_same 389 = .ok (.iconst 1, 1) := by decide +kernel
theorem dL_same_390 : decode cL_same 390 = .ok (.iaload, 1) := by decide +kernel
theorem dL_same_391 : decode cL_same 391 = .ok (.istore 10, 2) := by decide +kernel
theorem dL_same_393 : decode cL_same 393 = .ok (.aload_n 2, 1) := by decide +kernel
theorem dL_same_394 : decode cL_same 394 = .ok (.iconst 0, 1) := by decide +kernel
theorem dL_same_395 : decode cL_same 395 = .ok (.iaload, 1) := by decide +kernel
theorem dL_same_396 : decode cL_same 396 = .ok (.aload_n 2, 1) := by decide +kernel
theorem dL_same_397 : decode cL_same 397 = .ok (.aload_n 3, 1) := by decide +kernel
theorem dL_same_398 : decode cL_same 398 = .ok (.aload 6, 2) := by decide +kernel
theorem dL_same_400 : decode cL_same 400 = .ok (.invokestatic 38, 3) := by decide +kernel
theorem dL_same_403 : decode cL_same 403 = .ok (.pop, 1) := by decide +kernel
theorem dL_same_404 : decode cL_same 404 = .ok (.iload 9, 2) := by decide +kernel
theorem dL_same_406 : decode cL_same 406 = .ok (.aload 6, 2) := by decide +kernel
theorem dL_same_408 : decode cL_same 408 = .ok (.iconst 0, 1) := by decide +kernel
theorem dL_same_409 : decode cL_same 409 = .ok (.iaload, 1) := by decide +kernel
theorem dL_same_410 : decode cL_same 410 = .ok (.if_icmp .ne 16, 3) := by decide +kernel
theorem dL_same_413 : decode cL_same 413 = .ok (.iload 10, 2) := by decide +kernel
theorem dL_same_415 : decode cL_same 415 = .ok (.aload 6, 2) := by decide +kernel
theorem dL_same_417 : decode cL_same 417 = .ok (.iconst 1, 1) := by decide +kernel
theorem dL_same_418 : decode cL_same 418 = .ok (.iaload, 1) := by decide +kernel
theorem dL_same_419 : decode cL_same 419 = .ok (.if_icmp .ne 7, 3) := by decide +kernel
theorem dL_same_422 : decode cL_same 422 = .ok (.iconst 1, 1) := by decide +kernel
theorem dL_same_423 : decode cL_same 423 = .ok (.goto 4, 3) := by decide +kernel
theorem dL_same_426 : decode cL_same 426 = .ok (.iconst 0, 1) := by decide +kernel
theorem dL_same_427 : decode cL_same 427 = .ok (.istore 11, 2) := by decide +kernel
theorem dL_same_429 : decode cL_same 429 = .ok (.aload_n 0, 1) := by decide +kernel
theorem dL_same_430 : decode cL_same 430 = .ok (.iconst 0, 1) := by decide +kernel
theorem dL_same_431 : decode cL_same 431 = .ok (.invokevirtual 42, 3) := by decide +kernel
theorem dL_same_434 : decode cL_same 434 = .ok (.iload 9, 2) := by decide +kernel
theorem dL_same_436 : decode cL_same 436 = .ok (.ldc 46, 2) := by decide +kernel
theorem dL_same_438 : decode cL_same 438 = .ok (.iadd, 1) := by decide +kernel
theorem dL_same_439 : decode cL_same 439 = .ok (.if_icmp .ne 86, 3) := by decide +kernel
theorem dL_same_442 : decode cL_same 442 = .ok (.aload_n 0, 1) := by decide +kernel
theorem dL_same_443 : decode cL_same 443 = .ok (.iconst 1, 1) := by decide +kernel
theorem dL_same_444 : decode cL_same 444 = .ok (.invokevirtual 42, 3) := by decide +kernel
theorem dL_same_447 : decode cL_same 447 = .ok (.iload 10, 2) := by decide +kernel
theorem dL_same_449 : decode cL_same 449 = .ok (.if_icmp .ne 76, 3) := by decide +kernel
theorem dL_same_452 : decode cL_same 452 = .ok (.aload_n 0, 1) := by decide +kernel
theorem dL_same_453 : decode cL_same 453 = .ok (.aload_n 2, 1) := by decide +kernel
theorem dL_same_454 : decode cL_same 454 = .ok (.iconst 2, 1) := by decide +kernel
theorem dL_same_455 : decode cL_same 455 = .ok (.iaload, 1) := by decide +kernel
theorem dL_same_456 : decode cL_same 456 = .ok (.iconst 0, 1) := by decide +kernel
theorem dL_same_457 : decode cL_same 457 = .ok (.invokevirtual 27, 3) := by decide +kernel
theorem dL_same_460 : decode cL_same 460 = .ok (.iconst (-1), 1) := by decide +kernel
theorem dL_same_461 : decode cL_same 461 = .ok (.if_icmp .ne 64, 3) := by decide +kernel
theorem dL_same_464 : decode cL_same 464 = .ok (.aload_n 0, 1) := by decide +kernel
theorem dL_same_465 : decode cL_same 465 = .ok (.iconst 0, 1) := by decide +kernel
theorem dL_same_466 : decode cL_same 466 = .ok (.invokevirtual 47, 3) := by decide +kernel
theorem dL_same_469 : decode cL_same 469 = .ok (.aload_n 2, 1) := by decide +kernel
theorem dL_same_470 : decode cL_same 470 = .ok (.iconst 0, 1) := by decide +kernel
theorem dL_same_471 : decode cL_same 471 = .ok (.iaload, 1) := by decide +kernel
theorem dL_same_472 : decode cL_same 472 = .ok (.if_icmp .ne 53, 3) := by decide +kernel
theorem dL_same_475 : decode cL_same 475 = .ok (.aload_n 0, 1) := by decide +kernel
theorem dL_same_476 : decode cL_same 476 = .ok (.iconst 1, 1) := by decide +kernel
theorem dL_same_477 : decode cL_same 477 = .ok (.invokevirtual 47, 3) := by decide +kernel
theorem dL_same_480 : decode cL_same 480 = .ok (.aload_n 2, 1) := by decide +kernel
theorem dL_same_481 : decode cL_same 481 = .ok (.iconst 1, 1) := by decide +kernel
theorem dL_same_482 : decode cL_same 482 = .ok (.iaload, 1) := by decide +kernel
theorem dL_same_483 : decode cL_same 483 = .ok (.if_icmp .ne 42, 3) := by decide +kernel
theorem dL_same_486 : decode cL_same 486 = .ok (.aload_n 0, 1) := by decide +kernel
theorem dL_same_487 : decode cL_same 487 = .ok (.iconst 2, 1) := by decide +kernel
theorem dL_same_488 : decode cL_same 488 = .ok (.invokevirtual 47, 3) := by decide +kernel
theorem dL_same_491 : decode cL_same 491 = .ok (.aload_n 2, 1) := by decide +kernel
theorem dL_same_492 : decode cL_same 492 = .ok (.iconst 2, 1) := by decide +kernel
theorem dL_same_493 : decode cL_same 493 = .ok (.iaload, 1) := by decide +kernel
theorem dL_same_494 : decode cL_same 494 = .ok (.if_icmp .ne 31, 3) := by decide +kernel
theorem dL_same_497 : decode cL_same 497 = .ok (.aload_n 0, 1) := by decide +kernel
theorem dL_same_498 : decode cL_same 498 = .ok (.iconst 3, 1) := by decide +kernel
theorem dL_same_499 : decode cL_same 499 = .ok (.invokevirtual 47, 3) := by decide +kernel
theorem dL_same_502 : decode cL_same 502 = .ok (.iload 7, 2) := by decide +kernel
theorem dL_same_504 : decode cL_same 504 = .ok (.if_icmp .ne 21, 3) := by decide +kernel
theorem dL_same_507 : decode cL_same 507 = .ok (.aload_n 0, 1) := by decide +kernel
theorem dL_same_508 : decode cL_same 508 = .ok (.iconst 4, 1) := by decide +kernel
theorem dL_same_509 : decode cL_same 509 = .ok (.invokevirtual 47, 3) := by decide +kernel
theorem dL_same_512 : decode cL_same 512 = .ok (.iload 11, 2) := by decide +kernel
theorem dL_same_514 : decode cL_same 514 = .ok (.ifCond .eq 7, 3) := by decide +kernel
theorem dL_same_517 : decode cL_same 517 = .ok (.iconst 1, 1) := by decide +kernel
theorem dL_same_518 : decode cL_same 518 = .ok (.goto 4, 3) := by decide +kernel
theorem dL_same_521 : decode cL_same 521 = .ok (.iconst 0, 1) := by decide +kernel
theorem dL_same_522 : decode cL_same 522 = .ok (.if_icmp .eq 5, 3) := by decide +kernel
theorem dL_same_525 : decode cL_same 525 = .ok (.iconst 0, 1) := by decide +kernel
theorem dL_same_526 : decode cL_same 526 = .ok (.ireturn, 1) := by decide +kernel
theorem dL_same_527 : decode cL_same 527 = .ok (.iload_n 1, 1) := by decide +kernel
theorem dL_same_528 : decode cL_same 528 = .ok (.bipush 101, 2) := by decide +kernel
theorem dL_same_530 : decode cL_same 530 = .ok (.invokestatic 50, 3) := by decide +kernel
theorem dL_same_533 : decode cL_same 533 = .ok (.istore 12, 2) := by decide +kernel
theorem dL_same_535 : decode cL_same 535 = .ok (.iload 12, 2) := by decide +kernel
theorem dL_same_537 : decode cL_same 537 = .ok (.aload_n 2, 1) := by decide +kernel
theorem dL_same_538 : decode cL_same 538 = .ok (.aload_n 3, 1) := by decide +kernel
theorem dL_same_539 : decode cL_same 539 = .ok (.aload 6, 2) := by decide +kernel
theorem dL_same_541 : decode cL_same 541 = .ok (.invokestatic 38, 3) := by decide +kernel
theorem dL_same_544 : decode cL_same 544 = .ok (.istore 13, 2) := by decide +kernel
theorem dL_same_546 : decode cL_same 546 = .ok (.iload 13, 2) := by decide +kernel
theorem dL_same_548 : decode cL_same 548 = .ok (.sipush 1000, 3) := by decide +kernel
theorem dL_same_551 : decode cL_same 551 = .ok (.irem, 1) := by decide +kernel
theorem dL_same_552 : decode cL_same 552 = .ok (.istore 14, 2) := by decide +kernel
theorem dL_same_554 : decode cL_same 554 = .ok (.iload 13, 2) := by decide +kernel
theorem dL_same_556 : decode cL_same 556 = .ok (.sipush 1000, 3) := by decide +kernel
theorem dL_same_559 : decode cL_same 559 = .ok (.idiv, 1) := by decide +kernel
theorem dL_same_560 : decode cL_same 560 = .ok (.istore 15, 2) := by decide +kernel
theorem dL_same_562 : decode cL_same 562 = .ok (.iload 14, 2) := by decide +kernel
theorem dL_same_564 : decode cL_same 564 = .ok (.iload 15, 2) := by decide +kernel
theorem dL_same_566 : decode cL_same 566 = .ok (.if_icmp .ne 7, 3) := by decide +kernel
theorem dL_same_569 : decode cL_same 569 = .ok (.iconst 1, 1) := by decide +kernel
theorem dL_same_570 : decode cL_same 570 = .ok (.goto 16, 3) := by decide +kernel
theorem dL_same_573 : decode cL_same 573 = .ok (.iload 15, 2) := by decide +kernel
theorem dL_same_575 : decode cL_same 575 = .ok (.iload 12, 2) := by decide +kernel
theorem dL_same_577 : decode cL_same 577 = .ok (.isub, 1) := by decide +kernel
theorem dL_same_578 : decode cL_same 578 = .ok (.iload 12, 2) := by decide +kernel
theorem dL_same_580 : decode cL_same 580 = .ok (.iload 14, 2) := by decide +kernel
theorem dL_same_582 : decode cL_same 582 = .ok (.isub, 1) := by decide +kernel
theorem dL_same_583 : decode cL_same 583 = .ok (.invokestatic 10, 3) := by decide +kernel
theorem dL_same_586 : decode cL_same 586 = .ok (.istore 16, 2) := by decide +kernel
theorem dL_same_588 : decode cL_same 588 = .ok (.aload_n 0, 1) := by decide +kernel
theorem dL_same_589 : decode cL_same 589 = .ok (.iload 12, 2) := by decide +kernel
theorem dL_same_591 : decode cL_same 591 = .ok (.invokevirtual 53, 3) := by decide +kernel
theorem dL_same_594 : decode cL_same 594 = .ok (.iload 12, 2) := by decide +kernel
theorem dL_same_596 : decode cL_same 596 = .ok (.aload_n 2, 1) := by decide +kernel
theorem dL_same_597 : decode cL_same 597 = .ok (.aload_n 3, 1) := by decide +kernel
theorem dL_same_598 : decode cL_same 598 = .ok (.invokestatic 20, 3) := by decide +kernel
theorem dL_same_601 : decode cL_same 601 = .ok (.sipush 1000, 3) := by decide +kernel
theorem dL_same_604 : decode cL_same 604 = .ok (.iadd, 1) := by decide +kernel
theorem dL_same_605 : decode cL_same 605 = .ok (.if_icmp .ne 120, 3) := by decide +kernel
theorem dL_same_608 : decode cL_same 608 = .ok (.aload_n 0, 1) := by decide +kernel
theorem dL_same_609 : decode cL_same 609 = .ok (.iload 12, 2) := by decide +kernel
theorem dL_same_611 : decode cL_same 611 = .ok (.iconst 0, 1) := by decide +kernel
theorem dL_same_612 : decode cL_same 612 = .ok (.invokevirtual 55, 3) := by decide +kernel
theorem dL_same_615 : decode cL_same 615 = .ok (.aload 6, 2) := by decide +kernel
theorem dL_same_617 : decode cL_same 617 = .ok (.iconst 0, 1) := by decide +kernel
theorem dL_same_618 : decode cL_same 618 = .ok (.iaload, 1) := by decide +kernel
theorem dL_same_619 : decode cL_same 619 = .ok (.ldc 46, 2) := by decide +kernel
theorem dL_same_621 : decode cL_same 621 = .ok (.iadd, 1) := by decide +kernel
theorem dL_same_622 : decode cL_same 622 = .ok (.if_icmp .ne 103, 3) := by decide +kernel
theorem dL_same_625 : decode cL_same 625 = .ok (.aload_n 0, 1) := by decide +kernel
theorem dL_same_626 : decode cL_same 626 = .ok (.iload 12, 2) := by decide +kernel
theorem dL_same_628 : decode cL_same 628 = .ok (.iconst 1, 1) := by decide +kernel
theorem dL_same_629 : decode cL_same 629 = .ok (.invokevirtual 55, 3) := by decide +kernel
theorem dL_same_632 : decode cL_same 632 = .ok (.aload 6, 2) := by decide +kernel
theorem dL_same_634 : decode cL_same 634 = .ok (.iconst 1, 1) := by decide +kernel
theorem dL_same_635 : decode cL_same 635 = .ok (.iaload, 1) := by decide +kernel
theorem dL_same_636 : decode cL_same 636 = .ok (.if_icmp .ne 89, 3) := by decide +kernel
theorem dL_same_639 : decode cL_same 639 = .ok (.aload_n 0, 1) := by decide +kernel
theorem dL_same_640 : decode cL_same 640 = .ok (.iload 12, 2) := by decide +kernel
theorem dL_same_642 : decode cL_same 642 = .ok (.iconst 0, 1) := by decide +kernel
theorem dL_same_643 : decode cL_same 643 = .ok (.invokevirtual 57, 3) := by decide +kernel
theorem dL_same_646 : decode cL_same 646 = .ok (.iload 14, 2) := by decide +kernel
theorem dL_same_648 : decode cL_same 648 = .ok (.if_icmp .ne 77, 3) := by decide +kernel
theorem dL_same_651 : decode cL_same 651 = .ok (.aload_n 0, 1) := by decide +kernel
theorem dL_same_652 : decode cL_same 652 = .ok (.iload 12, 2) := by decide +kernel
theorem dL_same_654 : decode cL_same 654 = .ok (.iconst 1, 1) := by decide +kernel
theorem dL_same_655 : decode cL_same 655 = .ok (.invokevirtual 57, 3) := by decide +kernel
theorem dL_same_658 : decode cL_same 658 = .ok (.iload 15, 2) := by decide +kernel
theorem dL_same_660 : decode cL_same 660 = .ok (.if_icmp .ne 65, 3) := by decide +kernel
theorem dL_same_663 : decode cL_same 663 = .ok (.aload_n 0, 1) := by decide +kernel
theorem dL_same_664 : decode cL_same 664 = .ok (.iload 12, 2) := by decide +kernel
theorem dL_same_666 : decode cL_same 666 = .ok (.iconst 2, 1) := by decide +kernel
theorem dL_same_667 : decode cL_same 667 = .ok (.invokevirtual 57, 3) := by decide +kernel
theorem dL_same_670 : decode cL_same 670 = .ok (.iload 14, 2) := by decide +kernel
theorem dL_same_672 : decode cL_same 672 = .ok (.iload 15, 2) := by decide +kernel
theorem dL_same_674 : decode cL_same 674 = .ok (.if_icmp .ne 7, 3) := by decide +kernel
theorem dL_same_677 : decode cL_same 677 = .ok (.iconst 1, 1) := by decide +kernel
theorem dL_same_678 : decode cL_same 678 = .ok (.goto 11, 3) := by decide +kernel
theorem dL_same_681 : decode cL_same 681 = .ok (.iload 15, 2) := by decide +kernel
theorem dL_same_683 : decode cL_same 683 = .ok (.iload 12, 2) := by decide +kernel
theorem dL_same_685 : decode cL_same 685 = .ok (.isub, 1) := by decide +kernel
theorem dL_same_686 : decode cL_same 686 = .ok (.iload 16, 2) := by decide +kernel
theorem dL_same_688 : decode cL_same 688 = .ok (.idiv, 1) := by decide +kernel
theorem dL_same_689 : decode cL_same 689 = .ok (.if_icmp .ne 36, 3) := by decide +kernel
theorem dL_same_692 : decode cL_same 692 = .ok (.aload_n 0, 1) := by decide +kernel
theorem dL_same_693 : decode cL_same 693 = .ok (.iload 12, 2) := by decide +kernel
theorem dL_same_695 : decode cL_same 695 = .ok (.iconst 3, 1) := by decide +kernel
theorem dL_same_696 : decode cL_same 696 = .ok (.invokevirtual 57, 3) := by decide +kernel
theorem dL_same_699 : decode cL_same 699 = .ok (.iload 14, 2) := by decide +kernel
theorem dL_same_701 : decode cL_same 701 = .ok (.iload 15, 2) := by decide +kernel
theorem dL_same_703 : decode cL_same 703 = .ok (.if_icmp .ne 7, 3) := by decide +kernel
theorem dL_same_706 : decode cL_same 706 = .ok (.iconst 0, 1) := by decide +kernel
theorem dL_same_707 : decode cL_same 707 = .ok (.goto 11, 3) := by decide +kernel
theorem dL_same_710 : decode cL_same 710 = .ok (.iload 12, 2) := by decide +kernel
theorem dL_same_712 : decode cL_same 712 = .ok (.iload 14, 2) := by decide +kernel
theorem dL_same_714 : decode cL_same 714 = .ok (.isub, 1) := by decide +kernel
theorem dL_same_715 : decode cL_same 715 = .ok (.iload 16, 2) := by decide +kernel
theorem dL_same_717 : decode cL_same 717 = .ok (.idiv, 1) := by decide +kernel
theorem dL_same_718 : decode cL_same 718 = .ok (.if_icmp .ne 7, 3) := by decide +kernel
theorem dL_same_721 : decode cL_same 721 = .ok (.iconst 1, 1) := by decide +kernel
theorem dL_same_722 : decode cL_same 722 = .ok (.goto 4, 3) := by decide +kernel
theorem dL_same_725 : decode cL_same 725 = .ok (.iconst 0, 1) := by decide +kernel
theorem dL_same_726 : decode cL_same 726 = .ok (.ireturn, 1) := by decide +kernel
theorem dL_law_0 : decode cL_law 0 = .ok (.new 28, 3) := by decide +kernel
theorem dL_law_3 : decode cL_law 3 = .ok (.dup, 1) := by decide +kernel
theorem dL_law_4 : decode cL_law 4 = .ok (.invokespecial 60, 3) := by decide +kernel
theorem dL_law_7 : decode cL_law 7 = .ok (.astore_n 1, 1) := by decide +kernel
theorem dL_law_8 : decode cL_law 8 = .ok (.iconst 3, 1) := by decide +kernel
theorem dL_law_9 : decode cL_law 9 = .ok (.newarray .int, 2) := by decide +kernel
theorem dL_law_11 : decode cL_law 11 = .ok (.astore_n 2, 1) := by decide +kernel
theorem dL_law_12 : decode cL_law 12 = .ok (.bipush 20, 2) := by decide +kernel
theorem dL_law_14 : decode cL_law 14 = .ok (.newarray .int, 2) := by decide +kernel
theorem dL_law_16 : decode cL_law 16 = .ok (.astore_n 3, 1) := by decide +kernel
theorem dL_law_17 : decode cL_law 17 = .ok (.bipush 8, 2) := by decide +kernel
theorem dL_law_19 : decode cL_law 19 = .ok (.newarray .int, 2) := by decide +kernel
theorem dL_law_21 : decode cL_law 21 = .ok (.astore 4, 2) := by decide +kernel
theorem dL_law_23 : decode cL_law 23 = .ok (.bipush 8, 2) := by decide +kernel
theorem dL_law_25 : decode cL_law 25 = .ok (.newarray .int, 2) := by decide +kernel
theorem dL_law_27 : decode cL_law 27 = .ok (.astore 5, 2) := by decide +kernel
theorem dL_law_29 : decode cL_law 29 = .ok (.iconst 2, 1) := by decide +kernel
theorem dL_law_30 : decode cL_law 30 = .ok (.newarray .int, 2) := by decide +kernel
theorem dL_law_32 : decode cL_law 32 = .ok (.astore 6, 2) := by decide +kernel
theorem dL_law_34 : decode cL_law 34 = .ok (.bipush 8, 2) := by decide +kernel
theorem dL_law_36 : decode cL_law 36 = .ok (.newarray .int, 2) := by decide +kernel
theorem dL_law_38 : decode cL_law 38 = .ok (.astore 7, 2) := by decide +kernel
theorem dL_law_40 : decode cL_law 40 = .ok (.bipush 8, 2) := by decide +kernel
theorem dL_law_42 : decode cL_law 42 = .ok (.newarray .int, 2) := by decide +kernel
theorem dL_law_44 : decode cL_law 44 = .ok (.astore 8, 2) := by decide +kernel
theorem dL_law_46 : decode cL_law 46 = .ok (.bipush 17, 2) := by decide +kernel
theorem dL_law_48 : decode cL_law 48 = .ok (.newarray .int, 2) := by decide +kernel
theorem dL_law_50 : decode cL_law 50 = .ok (.astore 9, 2) := by decide +kernel
theorem dL_law_52 : decode cL_law 52 = .ok (.aload_n 2, 1) := by decide +kernel
theorem dL_law_53 : decode cL_law 53 = .ok (.iconst 0, 1) := by decide +kernel
theorem dL_law_54 : decode cL_law 54 = .ok (.bipush 30, 2) := by decide +kernel
theorem dL_law_56 : decode cL_law 56 = .ok (.iastore, 1) := by decide +kernel
theorem dL_law_57 : decode cL_law 57 = .ok (.aload_n 2, 1) := by decide +kernel
theorem dL_law_58 : decode cL_law 58 = .ok (.iconst 2, 1) := by decide +kernel
theorem dL_law_59 : decode cL_law 59 = .ok (.iconst 1, 1) := by decide +kernel
theorem dL_law_60 : decode cL_law 60 = .ok (.iastore, 1) := by decide +kernel
theorem dL_law_61 : decode cL_law 61 = .ok (.aload 4, 2) := by decide +kernel
theorem dL_law_63 : decode cL_law 63 = .ok (.iconst 0, 1) := by decide +kernel
theorem dL_law_64 : decode cL_law 64 = .ok (.iconst 1, 1) := by decide +kernel
theorem dL_law_65 : decode cL_law 65 = .ok (.iastore, 1) := by decide +kernel
theorem dL_law_66 : decode cL_law 66 = .ok (.aload 5, 2) := by decide +kernel
theorem dL_law_68 : decode cL_law 68 = .ok (.iconst 0, 1) := by decide +kernel
theorem dL_law_69 : decode cL_law 69 = .ok (.bipush 30, 2) := by decide +kernel
theorem dL_law_71 : decode cL_law 71 = .ok (.iastore, 1) := by decide +kernel
theorem dL_law_72 : decode cL_law 72 = .ok (.iconst 0, 1) := by decide +kernel
theorem dL_law_73 : decode cL_law 73 = .ok (.istore 10, 2) := by decide +kernel
theorem dL_law_75 : decode cL_law 75 = .ok (.iload 10, 2) := by decide +kernel
theorem dL_law_77 : decode cL_law 77 = .ok (.bipush 14, 2) := by decide +kernel
theorem dL_law_79 : decode cL_law 79 = .ok (.if_icmp .ge 977, 3) := by decide +kernel
theorem dL_law_82 : decode cL_law 82 = .ok (.aload_n 0, 1) := by decide +kernel
theorem dL_law_83 : decode cL_law 83 = .ok (.iload 10, 2) := by decide +kernel
theorem dL_law_85 : decode cL_law 85 = .ok (.invokestatic 61, 3) := by decide +kernel
theorem dL_law_88 : decode cL_law 88 = .ok (.istore 11, 2) := by decide +kernel
theorem dL_law_90 : decode cL_law 90 = .ok (.iload 10, 2) := by decide +kernel
theorem dL_law_92 : decode cL_law 92 = .ok (.iconst 2, 1) := by decide +kernel
theorem dL_law_93 : decode cL_law 93 = .ok (.if_icmp .ge 7, 3) := by decide +kernel
theorem dL_law_96 : decode cL_law 96 = .ok (.iconst 0, 1) := by decide +kernel
theorem dL_law_97 : decode cL_law 97 = .ok (.goto 10, 3) := by decide +kernel
theorem dL_law_100 : decode cL_law 100 = .ok (.iload 11, 2) := by decide +kernel
theorem dL_law_102 : decode cL_law 102 = .ok (.bipush 8, 2) := by decide +kernel
theorem dL_law_104 : decode cL_law 104 = .ok (.invokestatic 50, 3) := by decide +kernel
theorem dL_law_107 : decode cL_law 107 = .ok (.istore 12, 2) := by decide +kernel
theorem dL_law_109 : decode cL_law 109 = .ok (.iload 12, 2) := by decide +kernel
theorem dL_law_111 : decode cL_law 111 = .ok (.iconst 2, 1) := by decide +kernel
theorem dL_law_112 : decode cL_law 112 = .ok (.if_icmp .ge 147, 3) := by decide +kernel
theorem dL_law_115 : decode cL_law 115 = .ok (.iconst 1, 1) := by decide +kernel
theorem dL_law_116 : decode cL_law 116 = .ok (.iload 11, 2) := by decide +kernel
theorem dL_law_118 : decode cL_law 118 = .ok (.iconst 3, 1) := by decide +kernel
theorem dL_law_119 : decode cL_law 119 = .ok (.ishr, 1) := by decide +kernel
theorem dL_law_120 : decode cL_law 120 = .ok (.bipush 99, 2) := by decide +kernel
theorem dL_law_122 : decode cL_law 122 = .ok (.invokestatic 50, 3) := by decide +kernel
theorem dL_law_125 : decode cL_law 125 = .ok (.iadd, 1) := by decide +kernel
theorem dL_law_126 : decode cL_law 126 = .ok (.istore 13, 2) := by decide +kernel
theorem dL_law_128 : decode cL_law 128 = .ok (.iconst 1, 1) := by decide +kernel
theorem dL_law_129 : decode cL_law 129 = .ok (.iload 11, 2) := by decide +kernel
theorem dL_law_131 : decode cL_law 131 = .ok (.bipush 6, 2) := by decide +kernel
theorem dL_law_133 : decode cL_law 133 = .ok (.ishr, 1) := by decide +kernel
theorem dL_law_134 : decode cL_law 134 = .ok (.bipush 99, 2) := by decide +kernel
theorem dL_law_136 : decode cL_law 136 = .ok (.invokestatic 50, 3) := by decide +kernel
theorem dL_law_139 : decode cL_law 139 = .ok (.iadd, 1) := by decide +kernel
theorem dL_law_140 : decode cL_law 140 = .ok (.istore 14, 2) := by decide +kernel
theorem dL_law_142 : decode cL_law 142 = .ok (.iload 11, 2) := by decide +kernel
theorem dL_law_144 : decode cL_law 144 = .ok (.bipush 9, 2) := by decide +kernel
theorem dL_law_146 : decode cL_law 146 = .ok (.ishr, 1) := by decide +kernel
theorem dL_law_147 : decode cL_law 147 = .ok (.bipush 100, 2) := by decide +kernel
theorem dL_law_149 : decode cL_law 149 = .ok (.invokestatic 50, 3) := by decide +kernel
theorem dL_law_152 : decode cL_law 152 = .ok (.istore 15, 2) := by decide +kernel
theorem dL_law_154 : decode cL_law 154 = .ok (.iload 11, 2) := by decide +kernel
theorem dL_law_156 : decode cL_law 156 = .ok (.bipush 11, 2) := by decide +kernel
theorem dL_law_158 : decode cL_law 158 = .ok (.ishr, 1) := by decide +kernel
theorem dL_law_159 : decode cL_law 159 = .ok (.sipush 199, 3) := by decide +kernel
theorem dL_law_162 : decode cL_law 162 = .ok (.invokestatic 50, 3) := by decide +kernel
theorem dL_law_165 : decode cL_law 165 = .ok (.bipush 99, 2) := by decide +kernel
theorem dL_law_167 : decode cL_law 167 = .ok (.isub, 1) := by decide +kernel
theorem dL_law_168 : decode cL_law 168 = .ok (.istore 16, 2) := by decide +kernel
theorem dL_law_170 : decode cL_law 170 = .ok (.aload_n 1, 1) := by decide +kernel
theorem dL_law_171 : decode cL_law 171 = .ok (.iload 13, 2) := by decide +kernel
theorem dL_law_173 : decode cL_law 173 = .ok (.iload 14, 2) := by decide +kernel
theorem dL_law_175 : decode cL_law 175 = .ok (.iload 15, 2) := by decide +kernel
theorem dL_law_177 : decode cL_law 177 = .ok (.iload 16, 2) := by decide +kernel
theorem dL_law_179 : decode cL_law 179 = .ok (.invokevirtual 65, 3) := by decide +kernel
theorem dL_law_182 : decode cL_law 182 = .ok (.aload_n 2, 1) := by decide +kernel
theorem dL_law_183 : decode cL_law 183 = .ok (.iconst 1, 1) := by decide +kernel
theorem dL_law_184 : decode cL_law 184 = .ok (.iaload, 1) := by decide +kernel
theorem dL_law_185 : decode cL_law 185 = .ok (.iconst 5, 1) := by decide +kernel
theorem dL_law_186 : decode cL_law 186 = .ok (.if_icmp .ne 8, 3) := by decide +kernel
theorem dL_law_189 : decode cL_law 189 = .ok (.bipush (-4), 2) := by decide +kernel
theorem dL_law_191 : decode cL_law 191 = .ok (.goto 6, 3) := by decide +kernel
theorem dL_law_194 : decode cL_law 194 = .ok (.aload_n 2, 1) := by decide +kernel
theorem dL_law_195 : decode cL_law 195 = .ok (.iconst 1, 1) := by decide +kernel
theorem dL_law_196 : decode cL_law 196 = .ok (.iaload, 1) := by decide +kernel
theorem dL_law_197 : decode cL_law 197 = .ok (.if_icmp .eq 5, 3) := by decide +kernel
theorem dL_law_200 : decode cL_law 200 = .ok (.iconst 0, 1) := by decide +kernel
theorem dL_law_201 : decode cL_law 201 = .ok (.ireturn, 1) := by decide +kernel
theorem dL_law_202 : decode cL_law 202 = .ok (.aload_n 2, 1) := by decide +kernel
theorem dL_law_203 : decode cL_law 203 = .ok (.iconst 1, 1) := by decide +kernel
theorem dL_law_204 : decode cL_law 204 = .ok (.iaload, 1) := by decide +kernel
theorem dL_law_205 : decode cL_law 205 = .ok (.iconst 5, 1) := by decide +kernel
theorem dL_law_206 : decode cL_law 206 = .ok (.if_icmp .ge 50, 3) := by decide +kernel
theorem dL_law_209 : decode cL_law 209 = .ok (.aload_n 3, 1) := by decide +kernel
theorem dL_law_210 : decode cL_law 210 = .ok (.iconst 4, 1) := by decide +kernel
theorem dL_law_211 : decode cL_law 211 = .ok (.aload_n 2, 1) := by decide +kernel
theorem dL_law_212 : decode cL_law 212 = .ok (.iconst 1, 1) := by decide +kernel
theorem dL_law_213 : decode cL_law 213 = .ok (.iaload, 1) := by decide +kernel
theorem dL_law_214 : decode cL_law 214 = .ok (.imul, 1) := by decide +kernel
theorem dL_law_215 : decode cL_law 215 = .ok (.iload 13, 2) := by decide +kernel
theorem dL_law_217 : decode cL_law 217 = .ok (.iastore, 1) := by decide +kernel
theorem dL_law_218 : decode cL_law 218 = .ok (.aload_n 3, 1) := by decide +kernel
theorem dL_law_219 : decode cL_law 219 = .ok (.iconst 4, 1) := by decide +kernel
theorem dL_law_220 : decode cL_law 220 = .ok (.aload_n 2, 1) := by decide +kernel
theorem dL_law_221 : decode cL_law 221 = .ok (.iconst 1, 1) := by decide +kernel
theorem dL_law_222 : decode cL_law 222 = .ok (.iaload, 1) := by decide +kernel
theorem dL_law_223 : decode cL_law 223 = .ok (.imul, 1) := by decide +kernel
theorem dL_law_224 : decode cL_law 224 = .ok (.iconst 1, 1) := by decide +kernel
theorem dL_law_225 : decode cL_law 225 = .ok (.iadd, 1) := by decide +kernel
theorem dL_law_226 : decode cL_law 226 = .ok (.iload 14, 2) := by decide +kernel
theorem dL_law_228 : decode cL_law 228 = .ok (.iastore, 1) := by decide +kernel
theorem dL_law_229 : decode cL_law 229 = .ok (.aload_n 3, 1) := by decide +kernel
theorem dL_law_230 : decode cL_law 230 = .ok (.iconst 4, 1) := by decide +kernel
theorem dL_law_231 : decode cL_law 231 = .ok (.aload_n 2, 1) := by decide +kernel
theorem dL_law_232 : decode cL_law 232 = .ok (.iconst 1, 1) := by decide +kernel
theorem dL_law_233 : decode cL_law 233 = .ok (.iaload, 1) := by decide +kernel
theorem dL_law_234 : decode cL_law 234 = .ok (.imul, 1) := by decide +kernel
theorem dL_law_235 : decode cL_law 235 = .ok (.iconst 2, 1) := by decide +kernel
theorem dL_law_236 : decode cL_law 236 = .ok (.iadd, 1) := by decide +kernel
theorem dL_law_237 : decode cL_law 237 = .ok (.iload 15, 2) := by decide +kernel
theorem dL_law_239 : decode cL_law 239 = .ok (.iastore, 1) := by decide +kernel
theorem dL_law_240 : decode cL_law 240 = .ok (.aload_n 3, 1) := by decide +kernel
theorem dL_law_241 : decode cL_law 241 = .ok (.iconst 4, 1) := by decide +kernel
theorem dL_law_242 : decode cL_law 242 = .ok (.aload_n 2, 1) := by decide +kernel
theorem dL_law_243 : decode cL_law 243 = .ok (.iconst 1, 1) := by decide +kernel
theorem dL_law_244 : decode cL_law 244 = .ok (.dup2, 1) := by decide +kernel
theorem dL_law_245 : decode cL_law 245 = .ok (.iaload, 1) := by decide +kernel
theorem dL_law_246 : decode cL_law 246 = .ok (.dup_x2, 1) := by decide +kernel
theorem dL_law_247 : decode cL_law 247 = .ok (.iconst 1, 1) := by decide +kernel
theorem dL_law_248 : decode cL_law 248 = .ok (.iadd, 1) := by decide +kernel
theorem dL_law_249 : decode cL_law 249 = .ok (.iastore, 1) := by decide +kernel
theorem dL_law_250 : decode cL_law 250 = .ok (.imul, 1) := by decide +kernel
theorem dL_law_251 : decode cL_law 251 = .ok (.iconst 3, 1) := by decide +kernel
theorem dL_law_252 : decode cL_law 252 = .ok (.iadd, 1) := by decide +kernel
theorem dL_law_253 : decode cL_law 253 = .ok (.iload 16, 2) := by decide +kernel
theorem dL_law_255 : decode cL_law 255 = .ok (.iastore, 1) := by decide +kernel
theorem dL_law_256 : decode cL_law 256 = .ok (.goto 773, 3) := by decide +kernel
theorem dL_law_259 : decode cL_law 259 = .ok (.iload 12, 2) := by decide +kernel
theorem dL_law_261 : decode cL_law 261 = .ok (.iconst 2, 1) := by decide +kernel
theorem dL_law_262 : decode cL_law 262 = .ok (.if_icmp .ne 77, 3) := by decide +kernel
theorem dL_law_265 : decode cL_law 265 = .ok (.aload_n 2, 1) := by decide +kernel
theorem dL_law_266 : decode cL_law 266 = .ok (.iconst 1, 1) := by decide +kernel
theorem dL_law_267 : decode cL_law 267 = .ok (.iaload, 1) := by decide +kernel
theorem dL_law_268 : decode cL_law 268 = .ok (.ifCond .le 71, 3) := by decide +kernel
theorem dL_law_271 : decode cL_law 271 = .ok (.iload 11, 2) := by decide +kernel
theorem dL_law_273 : decode cL_law 273 = .ok (.iconst 3, 1) := by decide +kernel
theorem dL_law_274 : decode cL_law 274 = .ok (.ishr, 1) := by decide +kernel
theorem dL_law_275 : decode cL_law 275 = .ok (.aload_n 2, 1) := by decide +kernel
theorem dL_law_276 : decode cL_law 276 = .ok (.iconst 1, 1) := by decide +kernel
theorem dL_law_277 : decode cL_law 277 = .ok (.iaload, 1) := by decide +kernel
theorem dL_law_278 : decode cL_law 278 = .ok (.invokestatic 50, 3) := by decide +kernel
theorem dL_law_281 : decode cL_law 281 = .ok (.istore 13, 2) := by decide +kernel
theorem dL_law_283 : decode cL_law 283 = .ok (.iconst 4, 1) := by decide +kernel
theorem dL_law_284 : decode cL_law 284 = .ok (.iload 13, 2) := by decide +kernel
theorem dL_law_286 : decode cL_law 286 = .ok (.imul, 1) := by decide +kernel
theorem dL_law_287 : decode cL_law 287 = .ok (.istore 14, 2) := by decide +kernel
theorem dL_law_289 : decode cL_law 289 = .ok (.iload 14, 2) := by decide +kernel
theorem dL_law_291 : decode cL_law 291 = .ok (.iconst 4, 1) := by decide +kernel
theorem dL_law_292 : decode cL_law 292 = .ok (.iadd, 1) := by decide +kernel
theorem dL_law_293 : decode cL_law 293 = .ok (.iconst 4, 1) := by decide +kernel
theorem dL_law_294 : decode cL_law 294 = .ok (.aload_n 2, 1) := by decide +kernel
theorem dL_law_295 : decode cL_law 295 = .ok (.iconst 1, 1) := by decide +kernel
theorem dL_law_296 : decode cL_law 296 = .ok (.iaload, 1) := by decide +kernel
theorem dL_law_297 : decode cL_law 297 = .ok (.imul, 1) := by decide +kernel
theorem dL_law_298 : decode cL_law 298 = .ok (.if_icmp .ge 19, 3) := by decide +kernel
theorem dL_law_301 : decode cL_law 301 = .ok (.aload_n 3, 1) := by decide +kernel
theorem dL_law_302 : decode cL_law 302 = .ok (.iload 14, 2) := by decide +kernel
theorem dL_law_304 : decode cL_law 304 = .ok (.aload_n 3, 1) := by decide +kernel
theorem dL_law_305 : decode cL_law 305 = .ok (.iload 14, 2) := by decide +kernel
theorem dL_law_307 : decode cL_law 307 = .ok (.iconst 4, 1) := by decide +kernel
theorem dL_law_308 : decode cL_law 308 = .ok (.iadd, 1) := by decide +kernel
theorem dL_law_309 : decode cL_law 309 = .ok (.iaload, 1) := by decide +kernel
theorem dL_law_310 : decode cL_law 310 = .ok (.iastore, 1) := by decide +kernel
theorem dL_law_311 : decode cL_law 311 = .ok (.iinc 14 1, 3) := by decide +kernel
theorem dL_law_314 : decode cL_law 314 = .ok (.goto (-25), 3) := by decide +kernel
theorem dL_law_317 : decode cL_law 317 = .ok (.aload_n 1, 1) := by decide +kernel
theorem dL_law_318 : decode cL_law 318 = .ok (.iload 13, 2) := by decide +kernel
theorem dL_law_320 : decode cL_law 320 = .ok (.invokevirtual 69, 3) := by decide +kernel
theorem dL_law_323 : decode cL_law 323 = .ok (.aload_n 2, 1) := by decide +kernel
theorem dL_law_324 : decode cL_law 324 = .ok (.iconst 1, 1) := by decide +kernel
theorem dL_law_325 : decode cL_law 325 = .ok (.dup2, 1) := by decide +kernel
theorem dL_law_326 : decode cL_law 326 = .ok (.iaload, 1) := by decide +kernel
theorem dL_law_327 : decode cL_law 327 = .ok (.iconst 1, 1) := by decide +kernel
theorem dL_law_328 : decode cL_law 328 = .ok (.isub, 1) := by decide +kernel
theorem dL_law_329 : decode cL_law 329 = .ok (.dup_x2, 1) := by decide +kernel
theorem dL_law_330 : decode cL_law 330 = .ok (.iastore, 1) := by decide +kernel
theorem dL_law_331 : decode cL_law 331 = .ok (.if_icmp .eq 5, 3) := by decide +kernel
theorem dL_law_334 : decode cL_law 334 = .ok (.iconst 0, 1) := by decide +kernel
theorem dL_law_335 : decode cL_law 335 = .ok (.ireturn, 1) := by decide +kernel
theorem dL_law_336 : decode cL_law 336 = .ok (.goto 693, 3) := by decide +kernel
theorem dL_law_339 : decode cL_law 339 = .ok (.iload 12, 2) := by decide +kernel
theorem dL_law_341 : decode cL_law 341 = .ok (.iconst 5, 1) := by decide +kernel
theorem dL_law_342 : decode cL_law 342 = .ok (.if_icmp .ge 250, 3) := by decide +kernel
theorem dL_law_345 : decode cL_law 345 = .ok (.iload 11, 2) := by decide +kernel
theorem dL_law_347 : decode cL_law 347 = .ok (.iconst 3, 1) := by decide +kernel
theorem dL_law_348 : decode cL_law 348 = .ok (.ishr, 1) := by decide +kernel
theorem dL_law_349 : decode cL_law 349 = .ok (.aload_n 2, 1) := by decide +kernel
theorem dL_law_350 : decode cL_law 350 = .ok (.iconst 2, 1) := by decide +kernel
theorem dL_law_351 : decode cL_law 351 = .ok (.iaload, 1) := by decide +kernel
theorem dL_law_352 : decode cL_law 352 = .ok (.invokestatic 50, 3) := by decide +kernel
theorem dL_law_355 : decode cL_law 355 = .ok (.istore 13, 2) := by decide +kernel
theorem dL_law_357 : decode cL_law 357 = .ok (.iload 11, 2) := by decide +kernel
theorem dL_law_359 : decode cL_law 359 = .ok (.bipush 6, 2) := by decide +kernel
theorem dL_law_361 : decode cL_law 361 = .ok (.ishr, 1) := by decide +kernel
theorem dL_law_362 : decode cL_law 362 = .ok (.aload 5, 2) := by decide +kernel
theorem dL_law_364 : decode cL_law 364 = .ok (.iload 13, 2) := by decide +kernel
theorem dL_law_366 : decode cL_law 366 = .ok (.iaload, 1) := by decide +kernel
theorem dL_law_367 : decode cL_law 367 = .ok (.iconst 1, 1) := by decide +kernel
theorem dL_law_368 : decode cL_law 368 = .ok (.iadd, 1) := by decide +kernel
theorem dL_law_369 : decode cL_law 369 = .ok (.invokestatic 50, 3) := by decide +kernel
theorem dL_law_372 : decode cL_law 372 = .ok (.istore 14, 2) := by decide +kernel
theorem dL_law_374 : decode cL_law 374 = .ok (.aload 5, 2) := by decide +kernel
theorem dL_law_376 : decode cL_law 376 = .ok (.iload 13, 2) := by decide +kernel
theorem dL_law_378 : decode cL_law 378 = .ok (.iaload, 1) := by decide +kernel
theorem dL_law_379 : decode cL_law 379 = .ok (.iload 11, 2) := by decide +kernel
theorem dL_law_381 : decode cL_law 381 = .ok (.bipush 12, 2) := by decide +kernel
theorem dL_law_383 : decode cL_law 383 = .ok (.ishr, 1) := by decide +kernel
theorem dL_law_384 : decode cL_law 384 = .ok (.bipush 101, 2) := by decide +kernel
theorem dL_law_386 : decode cL_law 386 = .ok (.aload 5, 2) := by decide +kernel
theorem dL_law_388 : decode cL_law 388 = .ok (.iload 13, 2) := by decide +kernel
theorem dL_law_390 : decode cL_law 390 = .ok (.iaload, 1) := by decide +kernel
theorem dL_law_391 : decode cL_law 391 = .ok (.isub, 1) := by decide +kernel
theorem dL_law_392 : decode cL_law 392 = .ok (.invokestatic 50, 3) := by decide +kernel
theorem dL_law_395 : decode cL_law 395 = .ok (.iadd, 1) := by decide +kernel
theorem dL_law_396 : decode cL_law 396 = .ok (.istore 15, 2) := by decide +kernel
theorem dL_law_398 : decode cL_law 398 = .ok (.iconst 0, 1) := by decide +kernel
theorem dL_law_399 : decode cL_law 399 = .ok (.istore 16, 2) := by decide +kernel
theorem dL_law_401 : decode cL_law 401 = .ok (.iload 14, 2) := by decide +kernel
theorem dL_law_403 : decode cL_law 403 = .ok (.iload 15, 2) := by decide +kernel
theorem dL_law_405 : decode cL_law 405 = .ok (.if_icmp .ne 7, 3) := by decide +kernel
theorem dL_law_408 : decode cL_law 408 = .ok (.iconst 1, 1) := by decide +kernel
theorem dL_law_409 : decode cL_law 409 = .ok (.goto 8, 3) := by decide +kernel
theorem dL_law_412 : decode cL_law 412 = .ok (.iload 15, 2) := by decide +kernel
theorem dL_law_414 : decode cL_law 414 = .ok (.iload 14, 2) := by decide +kernel
theorem dL_law_416 : decode cL_law 416 = .ok (.isub, 1) := by decide +kernel
theorem dL_law_417 : decode cL_law 417 = .ok (.istore 17, 2) := by decide +kernel
theorem dL_law_419 : decode cL_law 419 = .ok (.iconst 0, 1) := by decide +kernel
theorem dL_law_420 : decode cL_law 420 = .ok (.istore 18, 2) := by decide +kernel
theorem dL_law_422 : decode cL_law 422 = .ok (.iload 18, 2) := by decide +kernel
theorem dL_law_424 : decode cL_law 424 = .ok (.aload_n 2, 1) := by decide +kernel
theorem dL_law_425 : decode cL_law 425 = .ok (.iconst 2, 1) := by decide +kernel
theorem dL_law_426 : decode cL_law 426 = .ok (.iaload, 1) := by decide +kernel
theorem dL_law_427 : decode cL_law 427 = .ok (.if_icmp .ge 104, 3) := by decide +kernel
theorem dL_law_430 : decode cL_law 430 = .ok (.aload 7, 2) := by decide +kernel
theorem dL_law_432 : decode cL_law 432 = .ok (.iload 16, 2) := by decide +kernel
theorem dL_law_434 : decode cL_law 434 = .ok (.aload 4, 2) := by decide +kernel
theorem dL_law_436 : decode cL_law 436 = .ok (.iload 18, 2) := by decide +kernel
theorem dL_law_438 : decode cL_law 438 = .ok (.iaload, 1) := by decide +kernel
theorem dL_law_439 : decode cL_law 439 = .ok (.iload 17, 2) := by decide +kernel
theorem dL_law_441 : decode cL_law 441 = .ok (.imul, 1) := by decide +kernel
theorem dL_law_442 : decode cL_law 442 = .ok (.iastore, 1) := by decide +kernel
theorem dL_law_443 : decode cL_law 443 = .ok (.aload 8, 2) := by decide +kernel
theorem dL_law_445 : decode cL_law 445 = .ok (.iload 16, 2) := by decide +kernel
theorem dL_law_447 : decode cL_law 447 = .ok (.aload 5, 2) := by decide +kernel
theorem dL_law_449 : decode cL_law 449 = .ok (.iload 18, 2) := by decide +kernel
theorem dL_law_451 : decode cL_law 451 = .ok (.iaload, 1) := by decide +kernel
theorem dL_law_452 : decode cL_law 452 = .ok (.iastore, 1) := by decide +kernel
theorem dL_law_453 : decode cL_law 453 = .ok (.iload 18, 2) := by decide +kernel
theorem dL_law_455 : decode cL_law 455 = .ok (.iload 13, 2) := by decide +kernel
theorem dL_law_457 : decode cL_law 457 = .ok (.if_icmp .ne 65, 3) := by decide +kernel
theorem dL_law_460 : decode cL_law 460 = .ok (.iload 14, 2) := by decide +kernel
theorem dL_law_462 : decode cL_law 462 = .ok (.iload 15, 2) := by decide +kernel
theorem dL_law_464 : decode cL_law 464 = .ok (.if_icmp .ge 58, 3) := by decide +kernel
theorem dL_law_467 : decode cL_law 467 = .ok (.aload 7, 2) := by decide +kernel
theorem dL_law_469 : decode cL_law 469 = .ok (.iload 16, 2) := by decide +kernel
theorem dL_law_471 : decode cL_law 471 = .ok (.aload 4, 2) := by decide +kernel
theorem dL_law_473 : decode cL_law 473 = .ok (.iload 18, 2) := by decide +kernel
theorem dL_law_475 : decode cL_law 475 = .ok (.iaload, 1) := by decide +kernel
theorem dL_law_476 : decode cL_law 476 = .ok (.iload 15, 2) := by decide +kernel
theorem dL_law_478 : decode cL_law 478 = .ok (.aload 5, 2) := by decide +kernel
theorem dL_law_480 : decode cL_law 480 = .ok (.iload 18, 2) := by decide +kernel
theorem dL_law_482 : decode cL_law 482 = .ok (.iaload, 1) := by decide +kernel
theorem dL_law_483 : decode cL_law 483 = .ok (.isub, 1) := by decide +kernel
theorem dL_law_484 : decode cL_law 484 = .ok (.imul, 1) := by decide +kernel
theorem dL_law_485 : decode cL_law 485 = .ok (.iastore, 1) := by decide +kernel
theorem dL_law_486 : decode cL_law 486 = .ok (.aload 8, 2) := by decide +kernel
theorem dL_law_488 : decode cL_law 488 = .ok (.iload 16, 2) := by decide +kernel
theorem dL_law_490 : decode cL_law 490 = .ok (.iinc 16 1, 3) := by decide +kernel
theorem dL_law_493 : decode cL_law 493 = .ok (.iload 14, 2) := by decide +kernel
theorem dL_law_495 : decode cL_law 495 = .ok (.iastore, 1) := by decide +kernel
theorem dL_law_496 : decode cL_law 496 = .ok (.aload 7, 2) := by decide +kernel
theorem dL_law_498 : decode cL_law 498 = .ok (.iload 16, 2) := by decide +kernel
theorem dL_law_500 : decode cL_law 500 = .ok (.aload 4, 2) := by decide +kernel
theorem dL_law_502 : decode cL_law 502 = .ok (.iload 18, 2) := by decide +kernel
theorem dL_law_504 : decode cL_law 504 = .ok (.iaload, 1) := by decide +kernel
theorem dL_law_505 : decode cL_law 505 = .ok (.aload 5, 2) := by decide +kernel
theorem dL_law_507 : decode cL_law 507 = .ok (.iload 18, 2) := by decide +kernel
theorem dL_law_509 : decode cL_law 509 = .ok (.iaload, 1) := by decide +kernel
theorem dL_law_510 : decode cL_law 510 = .ok (.iload 14, 2) := by decide +kernel
theorem dL_law_512 : decode cL_law 512 = .ok (.isub, 1) := by decide +kernel
theorem dL_law_513 : decode cL_law 513 = .ok (.imul, 1) := by decide +kernel
theorem dL_law_514 : decode cL_law 514 = .ok (.iastore, 1) := by decide +kernel
theorem dL_law_515 : decode cL_law 515 = .ok (.aload 8, 2) := by decide +kernel
theorem dL_law_517 : decode cL_law 517 = .ok (.iload 16, 2) := by decide +kernel
theorem dL_law_519 : decode cL_law 519 = .ok (.iload 15, 2) := by decide +kernel
theorem dL_law_521 : decode cL_law 521 = .ok (.iastore, 1) := by decide +kernel
theorem dL_law_522 : decode cL_law 522 = .ok (.iinc 16 1, 3) := by decide +kernel
theorem dL_law_525 : decode cL_law 525 = .ok (.iinc 18 1, 3) := by decide +kernel
theorem dL_law_528 : decode cL_law 528 = .ok (.goto (-106), 3) := by decide +kernel
theorem dL_law_531 : decode cL_law 531 = .ok (.iload 16, 2) := by decide +kernel
theorem dL_law_533 : decode cL_law 533 = .ok (.aload 7, 2) := by decide +kernel
theorem dL_law_535 : decode cL_law 535 = .ok (.aload 8, 2) := by decide +kernel
theorem dL_law_537 : decode cL_law 537 = .ok (.aload 9, 2) := by decide +kernel
theorem dL_law_539 : decode cL_law 539 = .ok (.invokestatic 72, 3) := by decide +kernel
theorem dL_law_542 : decode cL_law 542 = .ok (.istore 18, 2) := by decide +kernel
theorem dL_law_544 : decode cL_law 544 = .ok (.aload_n 1, 1) := by decide +kernel
theorem dL_law_545 : decode cL_law 545 = .ok (.iload 13, 2) := by decide +kernel
theorem dL_law_547 : decode cL_law 547 = .ok (.iload 14, 2) := by decide +kernel
theorem dL_law_549 : decode cL_law 549 = .ok (.iload 15, 2) := by decide +kernel
theorem dL_law_551 : decode cL_law 551 = .ok (.invokevirtual 76, 3) := by decide +kernel
theorem dL_law_554 : decode cL_law 554 = .ok (.iload 18, 2) := by decide +kernel
theorem dL_law_556 : decode cL_law 556 = .ok (.ifCond .eq 11, 3) := by decide +kernel
theorem dL_law_559 : decode cL_law 559 = .ok (.aload 9, 2) := by decide +kernel
theorem dL_law_561 : decode cL_law 561 = .ok (.bipush 16, 2) := by decide +kernel
theorem dL_law_563 : decode cL_law 563 = .ok (.iaload, 1) := by decide +kernel
theorem dL_law_564 : decode cL_law 564 = .ok (.goto 5, 3) := by decide +kernel
theorem dL_law_567 : decode cL_law 567 = .ok (.bipush (-4), 2) := by decide +kernel
theorem dL_law_569 : decode cL_law 569 = .ok (.if_icmp .eq 5, 3) := by decide +kernel
theorem dL_law_572 : decode cL_law 572 = .ok (.iconst 0, 1) := by decide +kernel
theorem dL_law_573 : decode cL_law 573 = .ok (.ireturn, 1) := by decide +kernel
theorem dL_law_574 : decode cL_law 574 = .ok (.iload 18, 2) := by decide +kernel
theorem dL_law_576 : decode cL_law 576 = .ok (.ifCond .eq 13, 3) := by decide +kernel
theorem dL_law_579 : decode cL_law 579 = .ok (.aload 9, 2) := by decide +kernel
theorem dL_law_581 : decode cL_law 581 = .ok (.aload_n 2, 1) := by decide +kernel
theorem dL_law_582 : decode cL_law 582 = .ok (.aload 4, 2) := by decide +kernel
theorem dL_law_584 : decode cL_law 584 = .ok (.aload 5, 2) := by decide +kernel
theorem dL_law_586 : decode cL_law 586 = .ok (.invokestatic 80, 3) := by decide +kernel
theorem dL_law_589 : decode cL_law 589 = .ok (.goto 440, 3) := by decide +kernel
theorem dL_law_592 : decode cL_law 592 = .ok (.iload 12, 2) := by decide +kernel
theorem dL_law_594 : decode cL_law 594 = .ok (.iconst 5, 1) := by decide +kernel
theorem dL_law_595 : decode cL_law 595 = .ok (.if_icmp .ne 262, 3) := by decide +kernel
theorem dL_law_598 : decode cL_law 598 = .ok (.iload 11, 2) := by decide +kernel
theorem dL_law_600 : decode cL_law 600 = .ok (.iconst 3, 1) := by decide +kernel
theorem dL_law_601 : decode cL_law 601 = .ok (.ishr, 1) := by decide +kernel
theorem dL_law_602 : decode cL_law 602 = .ok (.aload_n 2, 1) := by decide +kernel
theorem dL_law_603 : decode cL_law 603 = .ok (.iconst 2, 1) := by decide +kernel
theorem dL_law_604 : decode cL_law 604 = .ok (.iaload, 1) := by decide +kernel
theorem dL_law_605 : decode cL_law 605 = .ok (.invokestatic 50, 3) := by decide +kernel
theorem dL_law_608 : decode cL_law 608 = .ok (.istore 13, 2) := by decide +kernel
theorem dL_law_610 : decode cL_law 610 = .ok (.iload 13, 2) := by decide +kernel
theorem dL_law_612 : decode cL_law 612 = .ok (.iconst 1, 1) := by decide +kernel
theorem dL_law_613 : decode cL_law 613 = .ok (.iadd, 1) := by decide +kernel
theorem dL_law_614 : decode cL_law 614 = .ok (.aload_n 2, 1) := by decide +kernel
theorem dL_law_615 : decode cL_law 615 = .ok (.iconst 2, 1) := by decide +kernel
theorem dL_law_616 : decode cL_law 616 = .ok (.iaload, 1) := by decide +kernel
theorem dL_law_617 : decode cL_law 617 = .ok (.if_icmp .ge 7, 3) := by decide +kernel
theorem dL_law_620 : decode cL_law 620 = .ok (.iconst 1, 1) := by decide +kernel
theorem dL_law_621 : decode cL_law 621 = .ok (.goto 4, 3) := by decide +kernel
theorem dL_law_624 : decode cL_law 624 = .ok (.iconst 0, 1) := by decide +kernel
theorem dL_law_625 : decode cL_law 625 = .ok (.istore 14, 2) := by decide +kernel
theorem dL_law_627 : decode cL_law 627 = .ok (.iload 14, 2) := by decide +kernel
theorem dL_law_629 : decode cL_law 629 = .ok (.ifCond .eq 19, 3) := by decide +kernel
theorem dL_law_632 : decode cL_law 632 = .ok (.aload 4, 2) := by decide +kernel
theorem dL_law_634 : decode cL_law 634 = .ok (.iload 13, 2) := by decide +kernel
theorem dL_law_636 : decode cL_law 636 = .ok (.iaload, 1) := by decide +kernel
theorem dL_law_637 : decode cL_law 637 = .ok (.aload 4, 2) := by decide +kernel
theorem dL_law_639 : decode cL_law 639 = .ok (.iload 13, 2) := by decide +kernel
theorem dL_law_641 : decode cL_law 641 = .ok (.iconst 1, 1) := by decide +kernel
theorem dL_law_642 : decode cL_law 642 = .ok (.iadd, 1) := by decide +kernel
theorem dL_law_643 : decode cL_law 643 = .ok (.iaload, 1) := by decide +kernel
theorem dL_law_644 : decode cL_law 644 = .ok (.iadd, 1) := by decide +kernel
theorem dL_law_645 : decode cL_law 645 = .ok (.goto 4, 3) := by decide +kernel
theorem dL_law_648 : decode cL_law 648 = .ok (.iconst 1, 1) := by decide +kernel
theorem dL_law_649 : decode cL_law 649 = .ok (.istore 15, 2) := by decide +kernel
theorem dL_law_651 : decode cL_law 651 = .ok (.iload 14, 2) := by decide +kernel
theorem dL_law_653 : decode cL_law 653 = .ok (.ifCond .eq 33, 3) := by decide +kernel
theorem dL_law_656 : decode cL_law 656 = .ok (.aload 4, 2) := by decide +kernel
theorem dL_law_658 : decode cL_law 658 = .ok (.iload 13, 2) := by decide +kernel
theorem dL_law_660 : decode cL_law 660 = .ok (.iaload, 1) := by decide +kernel
theorem dL_law_661 : decode cL_law 661 = .ok (.aload 5, 2) := by decide +kernel
theorem dL_law_663 : decode cL_law 663 = .ok (.iload 13, 2) := by decide +kernel
theorem dL_law_665 : decode cL_law 665 = .ok (.iaload, 1) := by decide +kernel
theorem dL_law_666 : decode cL_law 666 = .ok (.imul, 1) := by decide +kernel
theorem dL_law_667 : decode cL_law 667 = .ok (.aload 4, 2) := by decide +kernel
theorem dL_law_669 : decode cL_law 669 = .ok (.iload 13, 2) := by decide +kernel
theorem dL_law_671 : decode cL_law 671 = .ok (.iconst 1, 1) := by decide +kernel
theorem dL_law_672 : decode cL_law 672 = .ok (.iadd, 1) := by decide +kernel
theorem dL_law_673 : decode cL_law 673 = .ok (.iaload, 1) := by decide +kernel
theorem dL_law_674 : decode cL_law 674 = .ok (.aload 5, 2) := by decide +kernel
theorem dL_law_676 : decode cL_law 676 = .ok (.iload 13, 2) := by decide +kernel
theorem dL_law_678 : decode cL_law 678 = .ok (.iconst 1, 1) := by decide +kernel
theorem dL_law_679 : decode cL_law 679 = .ok (.iadd, 1) := by decide +kernel
theorem dL_law_680 : decode cL_law 680 = .ok (.iaload, 1) := by decide +kernel
theorem dL_law_681 : decode cL_law 681 = .ok (.imul, 1) := by decide +kernel
theorem dL_law_682 : decode cL_law 682 = .ok (.iadd, 1) := by decide +kernel
theorem dL_law_683 : decode cL_law 683 = .ok (.goto 4, 3) := by decide +kernel
theorem dL_law_686 : decode cL_law 686 = .ok (.iconst 0, 1) := by decide +kernel
theorem dL_law_687 : decode cL_law 687 = .ok (.istore 16, 2) := by decide +kernel
theorem dL_law_689 : decode cL_law 689 = .ok (.iload 16, 2) := by decide +kernel
theorem dL_law_691 : decode cL_law 691 = .ok (.iload 15, 2) := by decide +kernel
theorem dL_law_693 : decode cL_law 693 = .ok (.irem, 1) := by decide +kernel
theorem dL_law_694 : decode cL_law 694 = .ok (.ifCond .ne 7, 3) := by decide +kernel
theorem dL_law_697 : decode cL_law 697 = .ok (.iconst 1, 1) := by decide +kernel
theorem dL_law_698 : decode cL_law 698 = .ok (.goto 4, 3) := by decide +kernel
theorem dL_law_701 : decode cL_law 701 = .ok (.iconst 0, 1) := by decide +kernel
theorem dL_law_702 : decode cL_law 702 = .ok (.istore 17, 2) := by decide +kernel
theorem dL_law_704 : decode cL_law 704 = .ok (.iconst 0, 1) := by decide +kernel
theorem dL_law_705 : decode cL_law 705 = .ok (.istore 18, 2) := by decide +kernel
theorem dL_law_707 : decode cL_law 707 = .ok (.iload 18, 2) := by decide +kernel
theorem dL_law_709 : decode cL_law 709 = .ok (.aload_n 2, 1) := by decide +kernel
theorem dL_law_710 : decode cL_law 710 = .ok (.iconst 2, 1) := by decide +kernel
theorem dL_law_711 : decode cL_law 711 = .ok (.iaload, 1) := by decide +kernel
theorem dL_law_712 : decode cL_law 712 = .ok (.if_icmp .ge 58, 3) := by decide +kernel
theorem dL_law_715 : decode cL_law 715 = .ok (.aload 7, 2) := by decide +kernel
theorem dL_law_717 : decode cL_law 717 = .ok (.iload 18, 2) := by decide +kernel
theorem dL_law_719 : decode cL_law 719 = .ok (.aload 4, 2) := by decide +kernel
theorem dL_law_721 : decode cL_law 721 = .ok (.iload 18, 2) := by decide +kernel
theorem dL_law_723 : decode cL_law 723 = .ok (.iaload, 1) := by decide +kernel
theorem dL_law_724 : decode cL_law 724 = .ok (.iastore, 1) := by decide +kernel
theorem dL_law_725 : decode cL_law 725 = .ok (.aload 8, 2) := by decide +kernel
theorem dL_law_727 : decode cL_law 727 = .ok (.iload 18, 2) := by decide +kernel
theorem dL_law_729 : decode cL_law 729 = .ok (.iload 14, 2) := by decide +kernel
theorem dL_law_731 : decode cL_law 731 = .ok (.ifCond .eq 27, 3) := by decide +kernel
theorem dL_law_734 : decode cL_law 734 = .ok (.iload 18, 2) := by decide +kernel
theorem dL_law_736 : decode cL_law 736 = .ok (.iload 13, 2) := by decide +kernel
theorem dL_law_738 : decode cL_law 738 = .ok (.if_icmp .eq 12, 3) := by decide +kernel
theorem dL_law_741 : decode cL_law 741 = .ok (.iload 18, 2) := by decide +kernel
theorem dL_law_743 : decode cL_law 743 = .ok (.iload 13, 2) := by decide +kernel
theorem dL_law_745 : decode cL_law 745 = .ok (.iconst 1, 1) := by decide +kernel
theorem dL_law_746 : decode cL_law 746 = .ok (.iadd, 1) := by decide +kernel
theorem dL_law_747 : decode cL_law 747 = .ok (.if_icmp .ne 11, 3) := by decide +kernel
theorem dL_law_750 : decode cL_law 750 = .ok (.iload 16, 2) := by decide +kernel
theorem dL_law_752 : decode cL_law 752 = .ok (.iload 15, 2) := by decide +kernel
theorem dL_law_754 : decode cL_law 754 = .ok (.idiv, 1) := by decide +kernel
theorem dL_law_755 : decode cL_law 755 = .ok (.goto 8, 3) := by decide +kernel
theorem dL_law_758 : decode cL_law 758 = .ok (.aload 5, 2) := by decide +kernel
theorem dL_law_760 : decode cL_law 760 = .ok (.iload 18, 2) := by decide +kernel
theorem dL_law_762 : decode cL_law 762 = .ok (.iaload, 1) := by decide +kernel
theorem dL_law_763 : decode cL_law 763 = .ok (.iastore, 1) := by decide +kernel
theorem dL_law_764 : decode cL_law 764 = .ok (.iinc 18 1, 3) := by decide +kernel
theorem dL_law_767 : decode cL_law 767 = .ok (.goto (-60), 3) := by decide +kernel
theorem dL_law_770 : decode cL_law 770 = .ok (.aload_n 2, 1) := by decide +kernel
theorem dL_law_771 : decode cL_law 771 = .ok (.iconst 2, 1) := by decide +kernel
theorem dL_law_772 : decode cL_law 772 = .ok (.iaload, 1) := by decide +kernel
theorem dL_law_773 : decode cL_law 773 = .ok (.aload 7, 2) := by decide +kernel
theorem dL_law_775 : decode cL_law 775 = .ok (.aload 8, 2) := by decide +kernel
theorem dL_law_777 : decode cL_law 777 = .ok (.aload 9, 2) := by decide +kernel
theorem dL_law_779 : decode cL_law 779 = .ok (.invokestatic 72, 3) := by decide +kernel
theorem dL_law_782 : decode cL_law 782 = .ok (.istore 18, 2) := by decide +kernel
theorem dL_law_784 : decode cL_law 784 = .ok (.aload_n 1, 1) := by decide +kernel
theorem dL_law_785 : decode cL_law 785 = .ok (.iload 13, 2) := by decide +kernel
theorem dL_law_787 : decode cL_law 787 = .ok (.invokevirtual 84, 3) := by decide +kernel
theorem dL_law_790 : decode cL_law 790 = .ok (.iload 14, 2) := by decide +kernel
theorem dL_law_792 : decode cL_law 792 = .ok (.ifCond .ne 7, 3) := by decide +kernel
theorem dL_law_795 : decode cL_law 795 = .ok (.iconst (-1), 1) := by decide +kernel
theorem dL_law_796 : decode cL_law 796 = .ok (.goto 28, 3) := by decide +kernel
theorem dL_law_799 : decode cL_law 799 = .ok (.iload 17, 2) := by decide +kernel
theorem dL_law_801 : decode cL_law 801 = .ok (.ifCond .ne 8, 3) := by decide +kernel
theorem dL_law_804 : decode cL_law 804 = .ok (.bipush (-5), 2) := by decide +kernel
theorem dL_law_806 : decode cL_law 806 = .ok (.goto 18, 3) := by decide +kernel
theorem dL_law_809 : decode cL_law 809 = .ok (.iload 18, 2) := by decide +kernel
theorem dL_law_811 : decode cL_law 811 = .ok (.ifCond .eq 11, 3) := by decide +kernel
theorem dL_law_814 : decode cL_law 814 = .ok (.aload 9, 2) := by decide +kernel
theorem dL_law_816 : decode cL_law 816 = .ok (.bipush 16, 2) := by decide +kernel
theorem dL_law_818 : decode cL_law 818 = .ok (.iaload, 1) := by decide +kernel
theorem dL_law_819 : decode cL_law 819 = .ok (.goto 5, 3) := by decide +kernel
theorem dL_law_822 : decode cL_law 822 = .ok (.bipush (-4), 2) := by decide +kernel
theorem dL_law_824 : decode cL_law 824 = .ok (.if_icmp .eq 5, 3) := by decide +kernel
theorem dL_law_827 : decode cL_law 827 = .ok (.iconst 0, 1) := by decide +kernel
theorem dL_law_828 : decode cL_law 828 = .ok (.ireturn, 1) := by decide +kernel
theorem dL_law_829 : decode cL_law 829 = .ok (.iload 14, 2) := by decide +kernel
theorem dL_law_831 : decode cL_law 831 = .ok (.ifCond .eq 23, 3) := by decide +kernel
theorem dL_law_834 : decode cL_law 834 = .ok (.iload 17, 2) := by decide +kernel
theorem dL_law_836 : decode cL_law 836 = .ok (.ifCond .eq 18, 3) := by decide +kernel
theorem dL_law_839 : decode cL_law 839 = .ok (.iload 18, 2) := by decide +kernel
theorem dL_law_841 : decode cL_law 841 = .ok (.ifCond .eq 13, 3) := by decide +kernel
theorem dL_law_844 : decode cL_law 844 = .ok (.aload 9, 2) := by decide +kernel
theorem dL_law_846 : decode cL_law 846 = .ok (.aload_n 2, 1) := by decide +kernel
theorem dL_law_847 : decode cL_law 847 = .ok (.aload 4, 2) := by decide +kernel
theorem dL_law_849 : decode cL_law 849 = .ok (.aload 5, 2) := by decide +kernel
theorem dL_law_851 : decode cL_law 851 = .ok (.invokestatic 80, 3) := by decide +kernel
theorem dL_law_854 : decode cL_law 854 = .ok (.goto 175, 3) := by decide +kernel
theorem dL_law_857 : decode cL_law 857 = .ok (.iload 12, 2) := by decide +kernel
theorem dL_law_859 : decode cL_law 859 = .ok (.bipush 6, 2) := by decide +kernel
theorem dL_law_861 : decode cL_law 861 = .ok (.if_icmp .ne 121, 3) := by decide +kernel
theorem dL_law_864 : decode cL_law 864 = .ok (.aload_n 2, 1) := by decide +kernel
theorem dL_law_865 : decode cL_law 865 = .ok (.iconst 0, 1) := by decide +kernel
theorem dL_law_866 : decode cL_law 866 = .ok (.iaload, 1) := by decide +kernel
theorem dL_law_867 : decode cL_law 867 = .ok (.aload_n 2, 1) := by decide +kernel
theorem dL_law_868 : decode cL_law 868 = .ok (.aload_n 3, 1) := by decide +kernel
theorem dL_law_869 : decode cL_law 869 = .ok (.aload 6, 2) := by decide +kernel
theorem dL_law_871 : decode cL_law 871 = .ok (.invokestatic 38, 3) := by decide +kernel
theorem dL_law_874 : decode cL_law 874 = .ok (.istore 13, 2) := by decide +kernel
theorem dL_law_876 : decode cL_law 876 = .ok (.iload 13, 2) := by decide +kernel
theorem dL_law_878 : decode cL_law 878 = .ok (.sipush 1000, 3) := by decide +kernel
theorem dL_law_881 : decode cL_law 881 = .ok (.irem, 1) := by decide +kernel
theorem dL_law_882 : decode cL_law 882 = .ok (.istore 14, 2) := by decide +kernel
theorem dL_law_884 : decode cL_law 884 = .ok (.iload 13, 2) := by decide +kernel
theorem dL_law_886 : decode cL_law 886 = .ok (.sipush 1000, 3) := by decide +kernel
theorem dL_law_889 : decode cL_law 889 = .ok (.idiv, 1) := by decide +kernel
theorem dL_law_890 : decode cL_law 890 = .ok (.istore 15, 2) := by decide +kernel
theorem dL_law_892 : decode cL_law 892 = .ok (.aload 7, 2) := by decide +kernel
theorem dL_law_894 : decode cL_law 894 = .ok (.iconst 0, 1) := by decide +kernel
theorem dL_law_895 : decode cL_law 895 = .ok (.iload 14, 2) := by decide +kernel
theorem dL_law_897 : decode cL_law 897 = .ok (.iload 15, 2) := by decide +kernel
theorem dL_law_899 : decode cL_law 899 = .ok (.if_icmp .ne 7, 3) := by decide +kernel
theorem dL_law_902 : decode cL_law 902 = .ok (.iconst 1, 1) := by decide +kernel
theorem dL_law_903 : decode cL_law 903 = .ok (.goto 9, 3) := by decide +kernel
theorem dL_law_906 : decode cL_law 906 = .ok (.iload 15, 2) := by decide +kernel
theorem dL_law_908 : decode cL_law 908 = .ok (.aload_n 2, 1) := by decide +kernel
theorem dL_law_909 : decode cL_law 909 = .ok (.iconst 0, 1) := by decide +kernel
theorem dL_law_910 : decode cL_law 910 = .ok (.iaload, 1) := by decide +kernel
theorem dL_law_911 : decode cL_law 911 = .ok (.isub, 1) := by decide +kernel
theorem dL_law_912 : decode cL_law 912 = .ok (.iastore, 1) := by decide +kernel
theorem dL_law_913 : decode cL_law 913 = .ok (.aload 8, 2) := by decide +kernel
theorem dL_law_915 : decode cL_law 915 = .ok (.iconst 0, 1) := by decide +kernel
theorem dL_law_916 : decode cL_law 916 = .ok (.iload 14, 2) := by decide +kernel
theorem dL_law_918 : decode cL_law 918 = .ok (.iastore, 1) := by decide +kernel
theorem dL_law_919 : decode cL_law 919 = .ok (.aload 7, 2) := by decide +kernel
theorem dL_law_921 : decode cL_law 921 = .ok (.iconst 1, 1) := by decide +kernel
theorem dL_law_922 : decode cL_law 922 = .ok (.iload 14, 2) := by decide +kernel
theorem dL_law_924 : decode cL_law 924 = .ok (.iload 15, 2) := by decide +kernel
theorem dL_law_926 : decode cL_law 926 = .ok (.if_icmp .ne 7, 3) := by decide +kernel
theorem dL_law_929 : decode cL_law 929 = .ok (.iconst 0, 1) := by decide +kernel
theorem dL_law_930 : decode cL_law 930 = .ok (.goto 9, 3) := by decide +kernel
theorem dL_law_933 : decode cL_law 933 = .ok (.aload_n 2, 1) := by decide +kernel
theorem dL_law_934 : decode cL_law 934 = .ok (.iconst 0, 1) := by decide +kernel
theorem dL_law_935 : decode cL_law 935 = .ok (.iaload, 1) := by decide +kernel
theorem dL_law_936 : decode cL_law 936 = .ok (.iload 14, 2) := by decide +kernel
theorem dL_law_938 : decode cL_law 938 = .ok (.isub, 1) := by decide +kernel
theorem dL_law_939 : decode cL_law 939 = .ok (.iastore, 1) := by decide +kernel
theorem dL_law_940 : decode cL_law 940 = .ok (.aload 8, 2) := by decide +kernel
theorem dL_law_942 : decode cL_law 942 = .ok (.iconst 1, 1) := by decide +kernel
theorem dL_law_943 : decode cL_law 943 = .ok (.iload 15, 2) := by decide +kernel
theorem dL_law_945 : decode cL_law 945 = .ok (.iastore, 1) := by decide +kernel
theorem dL_law_946 : decode cL_law 946 = .ok (.iconst 2, 1) := by decide +kernel
theorem dL_law_947 : decode cL_law 947 = .ok (.aload 7, 2) := by decide +kernel
theorem dL_law_949 : decode cL_law 949 = .ok (.aload 8, 2) := by decide +kernel
theorem dL_law_951 : decode cL_law 951 = .ok (.aload 9, 2) := by decide +kernel
theorem dL_law_953 : decode cL_law 953 = .ok (.invokestatic 72, 3) := by decide +kernel
theorem dL_law_956 : decode cL_law 956 = .ok (.pop, 1) := by decide +kernel
theorem dL_law_957 : decode cL_law 957 = .ok (.aload 9, 2) := by decide +kernel
theorem dL_law_959 : decode cL_law 959 = .ok (.aload_n 2, 1) := by decide +kernel
theorem dL_law_960 : decode cL_law 960 = .ok (.aload 4, 2) := by decide +kernel
theorem dL_law_962 : decode cL_law 962 = .ok (.aload 5, 2) := by decide +kernel
theorem dL_law_964 : decode cL_law 964 = .ok (.invokestatic 80, 3) := by decide +kernel
theorem dL_law_967 : decode cL_law 967 = .ok (.aload_n 1, 1) := by decide +kernel
theorem dL_law_968 : decode cL_law 968 = .ok (.invokevirtual 87, 3) := by decide +kernel
theorem dL_law_971 : decode cL_law 971 = .ok (.aload_n 2, 1) := by decide +kernel
theorem dL_law_972 : decode cL_law 972 = .ok (.iconst 2, 1) := by decide +kernel
theorem dL_law_973 : decode cL_law 973 = .ok (.iaload, 1) := by decide +kernel
theorem dL_law_974 : decode cL_law 974 = .ok (.if_icmp .eq 5, 3) := by decide +kernel
theorem dL_law_977 : decode cL_law 977 = .ok (.iconst 0, 1) := by decide +kernel
theorem dL_law_978 : decode cL_law 978 = .ok (.ireturn, 1) := by decide +kernel
theorem dL_law_979 : decode cL_law 979 = .ok (.goto 50, 3) := by decide +kernel
theorem dL_law_982 : decode cL_law 982 = .ok (.iconst 1, 1) := by decide +kernel
theorem dL_law_983 : decode cL_law 983 = .ok (.iload 11, 2) := by decide +kernel
theorem dL_law_985 : decode cL_law 985 = .ok (.iconst 4, 1) := by decide +kernel
theorem dL_law_986 : decode cL_law 986 = .ok (.ishr, 1) := by decide +kernel
theorem dL_law_987 : decode cL_law 987 = .ok (.bipush 99, 2) := by decide +kernel
theorem dL_law_989 : decode cL_law 989 = .ok (.invokestatic 50, 3) := by decide +kernel
theorem dL_law_992 : decode cL_law 992 = .ok (.iadd, 1) := by decide +kernel
theorem dL_law_993 : decode cL_law 993 = .ok (.istore 13, 2) := by decide +kernel
theorem dL_law_995 : decode cL_law 995 = .ok (.aload_n 1, 1) := by decide +kernel
theorem dL_law_996 : decode cL_law 996 = .ok (.iload 13, 2) := by decide +kernel
theorem dL_law_998 : decode cL_law 998 = .ok (.invokevirtual 91, 3) := by decide +kernel
theorem dL_law_1001 : decode cL_law 1001 = .ok (.aload_n 2, 1) := by decide +kernel
theorem dL_law_1002 : decode cL_law 1002 = .ok (.iconst 0, 1) := by decide +kernel
theorem dL_law_1003 : decode cL_law 1003 = .ok (.iaload, 1) := by decide +kernel
theorem dL_law_1004 : decode cL_law 1004 = .ok (.if_icmp .eq 5, 3) := by decide +kernel
theorem dL_law_1007 : decode cL_law 1007 = .ok (.iconst 0, 1) := by decide +kernel
theorem dL_law_1008 : decode cL_law 1008 = .ok (.ireturn, 1) := by decide +kernel
theorem dL_law_1009 : decode cL_law 1009 = .ok (.aload_n 2, 1) := by decide +kernel
theorem dL_law_1010 : decode cL_law 1010 = .ok (.iconst 0, 1) := by decide +kernel
theorem dL_law_1011 : decode cL_law 1011 = .ok (.iload 13, 2) := by decide +kernel
theorem dL_law_1013 : decode cL_law 1013 = .ok (.iastore, 1) := by decide +kernel
theorem dL_law_1014 : decode cL_law 1014 = .ok (.aload_n 2, 1) := by decide +kernel
theorem dL_law_1015 : decode cL_law 1015 = .ok (.iconst 2, 1) := by decide +kernel
theorem dL_law_1016 : decode cL_law 1016 = .ok (.iconst 1, 1) := by decide +kernel
theorem dL_law_1017 : decode cL_law 1017 = .ok (.iastore, 1) := by decide +kernel
theorem dL_law_1018 : decode cL_law 1018 = .ok (.aload 4, 2) := by decide +kernel
theorem dL_law_1020 : decode cL_law 1020 = .ok (.iconst 0, 1) := by decide +kernel
theorem dL_law_1021 : decode cL_law 1021 = .ok (.iconst 1, 1) := by decide +kernel
theorem dL_law_1022 : decode cL_law 1022 = .ok (.iastore, 1) := by decide +kernel
theorem dL_law_1023 : decode cL_law 1023 = .ok (.aload 5, 2) := by decide +kernel
theorem dL_law_1025 : decode cL_law 1025 = .ok (.iconst 0, 1) := by decide +kernel
theorem dL_law_1026 : decode cL_law 1026 = .ok (.iload 13, 2) := by decide +kernel
theorem dL_law_1028 : decode cL_law 1028 = .ok (.iastore, 1) := by decide +kernel
theorem dL_law_1029 : decode cL_law 1029 = .ok (.aload_n 1, 1) := by decide +kernel
theorem dL_law_1030 : decode cL_law 1030 = .ok (.iload 11, 2) := by decide +kernel
theorem dL_law_1032 : decode cL_law 1032 = .ok (.iconst 5, 1) := by decide +kernel
theorem dL_law_1033 : decode cL_law 1033 = .ok (.ishr, 1) := by decide +kernel
theorem dL_law_1034 : decode cL_law 1034 = .ok (.aload_n 2, 1) := by decide +kernel
theorem dL_law_1035 : decode cL_law 1035 = .ok (.aload_n 3, 1) := by decide +kernel
theorem dL_law_1036 : decode cL_law 1036 = .ok (.aload 4, 2) := by decide +kernel
theorem dL_law_1038 : decode cL_law 1038 = .ok (.aload 5, 2) := by decide +kernel
theorem dL_law_1040 : decode cL_law 1040 = .ok (.aload 6, 2) := by decide +kernel
theorem dL_law_1042 : decode cL_law 1042 = .ok (.invokestatic 94, 3) := by decide +kernel
theorem dL_law_1045 : decode cL_law 1045 = .ok (.ifCond .ne 5, 3) := by decide +kernel
theorem dL_law_1048 : decode cL_law 1048 = .ok (.iconst 0, 1) := by decide +kernel
theorem dL_law_1049 : decode cL_law 1049 = .ok (.ireturn, 1) := by decide +kernel
theorem dL_law_1050 : decode cL_law 1050 = .ok (.iinc 10 1, 3) := by decide +kernel
theorem dL_law_1053 : decode cL_law 1053 = .ok (.goto (-978), 3) := by decide +kernel
theorem dL_law_1056 : decode cL_law 1056 = .ok (.iconst 1, 1) := by decide +kernel
theorem dL_law_1057 : decode cL_law 1057 = .ok (.ireturn, 1) := by decide +kernel
