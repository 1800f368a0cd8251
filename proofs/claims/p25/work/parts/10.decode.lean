theorem dX0_init_0 : decode cX0_init 0 = .ok (.aload_n 0, 1) := by decide +kernel
theorem dX0_init_1 : decode cX0_init 1 = .ok (.invokespecial 3, 3) := by decide +kernel
theorem dX0_init_4 : decode cX0_init 4 = .ok (.aload_n 0, 1) := by decide +kernel
theorem dX0_init_5 : decode cX0_init 5 = .ok (.bipush 101, 2) := by decide +kernel
theorem dX0_init_7 : decode cX0_init 7 = .ok (.newarray .int, 2) := by decide +kernel
theorem dX0_init_9 : decode cX0_init 9 = .ok (.putfield 9, 3) := by decide +kernel
theorem dX0_init_12 : decode cX0_init 12 = .ok (.aload_n 0, 1) := by decide +kernel
theorem dX0_init_13 : decode cX0_init 13 = .ok (.bipush 101, 2) := by decide +kernel
theorem dX0_init_15 : decode cX0_init 15 = .ok (.newarray .int, 2) := by decide +kernel
theorem dX0_init_17 : decode cX0_init 17 = .ok (.putfield 15, 3) := by decide +kernel
theorem dX0_init_20 : decode cX0_init 20 = .ok (.aload_n 0, 1) := by decide +kernel
theorem dX0_init_21 : decode cX0_init 21 = .ok (.iconst 0, 1) := by decide +kernel
theorem dX0_init_22 : decode cX0_init 22 = .ok (.putfield 18, 3) := by decide +kernel
theorem dX0_init_25 : decode cX0_init 25 = .ok (.aload_n 0, 1) := by decide +kernel
theorem dX0_init_26 : decode cX0_init 26 = .ok (.iconst 0, 1) := by decide +kernel
theorem dX0_init_27 : decode cX0_init 27 = .ok (.putfield 22, 3) := by decide +kernel
theorem dX0_init_30 : decode cX0_init 30 = .ok (.aload_n 0, 1) := by decide +kernel
theorem dX0_init_31 : decode cX0_init 31 = .ok (.iconst 0, 1) := by decide +kernel
theorem dX0_init_32 : decode cX0_init 32 = .ok (.putfield 25, 3) := by decide +kernel
theorem dX0_init_35 : decode cX0_init 35 = .ok (.aload_n 0, 1) := by decide +kernel
theorem dX0_init_36 : decode cX0_init 36 = .ok (.iconst 1, 1) := by decide +kernel
theorem dX0_init_37 : decode cX0_init 37 = .ok (.putfield 28, 3) := by decide +kernel
theorem dX0_init_40 : decode cX0_init 40 = .ok (.aload_n 0, 1) := by decide +kernel
theorem dX0_init_41 : decode cX0_init 41 = .ok (.iconst 0, 1) := by decide +kernel
theorem dX0_init_42 : decode cX0_init 42 = .ok (.putfield 31, 3) := by decide +kernel
theorem dX0_init_45 : decode cX0_init 45 = .ok (.return_, 1) := by decide +kernel
theorem dX0_draw_0 : decode cX0_draw 0 = .ok (.aload_n 0, 1) := by decide +kernel
theorem dX0_draw_1 : decode cX0_draw 1 = .ok (.iconst 0, 1) := by decide +kernel
theorem dX0_draw_2 : decode cX0_draw 2 = .ok (.putfield 18, 3) := by decide +kernel
theorem dX0_draw_5 : decode cX0_draw 5 = .ok (.iconst 0, 1) := by decide +kernel
theorem dX0_draw_6 : decode cX0_draw 6 = .ok (.istore_n 2, 1) := by decide +kernel
theorem dX0_draw_7 : decode cX0_draw 7 = .ok (.iload_n 2, 1) := by decide +kernel
theorem dX0_draw_8 : decode cX0_draw 8 = .ok (.bipush 100, 2) := by decide +kernel
theorem dX0_draw_10 : decode cX0_draw 10 = .ok (.if_icmp .gt 91, 3) := by decide +kernel
theorem dX0_draw_13 : decode cX0_draw 13 = .ok (.aload_n 0, 1) := by decide +kernel
theorem dX0_draw_14 : decode cX0_draw 14 = .ok (.getfield 9, 3) := by decide +kernel
theorem dX0_draw_17 : decode cX0_draw 17 = .ok (.iload_n 2, 1) := by decide +kernel
theorem dX0_draw_18 : decode cX0_draw 18 = .ok (.aload_n 1, 1) := by decide +kernel
theorem dX0_draw_19 : decode cX0_draw 19 = .ok (.iload_n 2, 1) := by decide +kernel
theorem dX0_draw_20 : decode cX0_draw 20 = .ok (.invokevirtual 34, 3) := by decide +kernel
theorem dX0_draw_23 : decode cX0_draw 23 = .ok (.iastore, 1) := by decide +kernel
theorem dX0_draw_24 : decode cX0_draw 24 = .ok (.aload_n 0, 1) := by decide +kernel
theorem dX0_draw_25 : decode cX0_draw 25 = .ok (.getfield 18, 3) := by decide +kernel
theorem dX0_draw_28 : decode cX0_draw 28 = .ok (.iconst 1, 1) := by decide +kernel
theorem dX0_draw_29 : decode cX0_draw 29 = .ok (.if_icmp .le 46, 3) := by decide +kernel
theorem dX0_draw_32 : decode cX0_draw 32 = .ok (.aload_n 0, 1) := by decide +kernel
theorem dX0_draw_33 : decode cX0_draw 33 = .ok (.aload_n 0, 1) := by decide +kernel
theorem dX0_draw_34 : decode cX0_draw 34 = .ok (.getfield 15, 3) := by decide +kernel
theorem dX0_draw_37 : decode cX0_draw 37 = .ok (.aload_n 0, 1) := by decide +kernel
theorem dX0_draw_38 : decode cX0_draw 38 = .ok (.getfield 18, 3) := by decide +kernel
theorem dX0_draw_41 : decode cX0_draw 41 = .ok (.iconst 2, 1) := by decide +kernel
theorem dX0_draw_42 : decode cX0_draw 42 = .ok (.isub, 1) := by decide +kernel
theorem dX0_draw_43 : decode cX0_draw 43 = .ok (.iaload, 1) := by decide +kernel
theorem dX0_draw_44 : decode cX0_draw 44 = .ok (.aload_n 0, 1) := by decide +kernel
theorem dX0_draw_45 : decode cX0_draw 45 = .ok (.getfield 15, 3) := by decide +kernel
theorem dX0_draw_48 : decode cX0_draw 48 = .ok (.aload_n 0, 1) := by decide +kernel
theorem dX0_draw_49 : decode cX0_draw 49 = .ok (.getfield 18, 3) := by decide +kernel
theorem dX0_draw_52 : decode cX0_draw 52 = .ok (.iconst 1, 1) := by decide +kernel
theorem dX0_draw_53 : decode cX0_draw 53 = .ok (.isub, 1) := by decide +kernel
theorem dX0_draw_54 : decode cX0_draw 54 = .ok (.iaload, 1) := by decide +kernel
theorem dX0_draw_55 : decode cX0_draw 55 = .ok (.iload_n 2, 1) := by decide +kernel
theorem dX0_draw_56 : decode cX0_draw 56 = .ok (.invokevirtual 40, 3) := by decide +kernel
theorem dX0_draw_59 : decode cX0_draw 59 = .ok (.ifCond .gt 16, 3) := by decide +kernel
theorem dX0_draw_62 : decode cX0_draw 62 = .ok (.aload_n 0, 1) := by decide +kernel
theorem dX0_draw_63 : decode cX0_draw 63 = .ok (.dup, 1) := by decide +kernel
theorem dX0_draw_64 : decode cX0_draw 64 = .ok (.getfield 18, 3) := by decide +kernel
theorem dX0_draw_67 : decode cX0_draw 67 = .ok (.iconst 1, 1) := by decide +kernel
theorem dX0_draw_68 : decode cX0_draw 68 = .ok (.isub, 1) := by decide +kernel
theorem dX0_draw_69 : decode cX0_draw 69 = .ok (.putfield 18, 3) := by decide +kernel
theorem dX0_draw_72 : decode cX0_draw 72 = .ok (.goto (-48), 3) := by decide +kernel
theorem dX0_draw_75 : decode cX0_draw 75 = .ok (.aload_n 0, 1) := by decide +kernel
theorem dX0_draw_76 : decode cX0_draw 76 = .ok (.getfield 15, 3) := by decide +kernel
theorem dX0_draw_79 : decode cX0_draw 79 = .ok (.aload_n 0, 1) := by decide +kernel
theorem dX0_draw_80 : decode cX0_draw 80 = .ok (.getfield 18, 3) := by decide +kernel
theorem dX0_draw_83 : decode cX0_draw 83 = .ok (.iload_n 2, 1) := by decide +kernel
theorem dX0_draw_84 : decode cX0_draw 84 = .ok (.iastore, 1) := by decide +kernel
theorem dX0_draw_85 : decode cX0_draw 85 = .ok (.aload_n 0, 1) := by decide +kernel
theorem dX0_draw_86 : decode cX0_draw 86 = .ok (.dup, 1) := by decide +kernel
theorem dX0_draw_87 : decode cX0_draw 87 = .ok (.getfield 18, 3) := by decide +kernel
theorem dX0_draw_90 : decode cX0_draw 90 = .ok (.iconst 1, 1) := by decide +kernel
theorem dX0_draw_91 : decode cX0_draw 91 = .ok (.iadd, 1) := by decide +kernel
theorem dX0_draw_92 : decode cX0_draw 92 = .ok (.putfield 18, 3) := by decide +kernel
theorem dX0_draw_95 : decode cX0_draw 95 = .ok (.iinc 2 1, 3) := by decide +kernel
theorem dX0_draw_98 : decode cX0_draw 98 = .ok (.goto (-91), 3) := by decide +kernel
theorem dX0_draw_101 : decode cX0_draw 101 = .ok (.return_, 1) := by decide +kernel
theorem dX0_heightOver_0 : decode cX0_heightOver 0 = .ok (.aload_n 0, 1) := by decide +kernel
theorem dX0_heightOver_1 : decode cX0_heightOver 1 = .ok (.getfield 9, 3) := by decide +kernel
theorem dX0_heightOver_4 : decode cX0_heightOver 4 = .ok (.iload_n 2, 1) := by decide +kernel
theorem dX0_heightOver_5 : decode cX0_heightOver 5 = .ok (.iaload, 1) := by decide +kernel
theorem dX0_heightOver_6 : decode cX0_heightOver 6 = .ok (.aload_n 0, 1) := by decide +kernel
theorem dX0_heightOver_7 : decode cX0_heightOver 7 = .ok (.getfield 9, 3) := by decide +kernel
theorem dX0_heightOver_10 : decode cX0_heightOver 10 = .ok (.iload_n 1, 1) := by decide +kernel
theorem dX0_heightOver_11 : decode cX0_heightOver 11 = .ok (.iaload, 1) := by decide +kernel
theorem dX0_heightOver_12 : decode cX0_heightOver 12 = .ok (.isub, 1) := by decide +kernel
theorem dX0_heightOver_13 : decode cX0_heightOver 13 = .ok (.iload_n 3, 1) := by decide +kernel
theorem dX0_heightOver_14 : decode cX0_heightOver 14 = .ok (.iload_n 1, 1) := by decide +kernel
theorem dX0_heightOver_15 : decode cX0_heightOver 15 = .ok (.isub, 1) := by decide +kernel
theorem dX0_heightOver_16 : decode cX0_heightOver 16 = .ok (.imul, 1) := by decide +kernel
theorem dX0_heightOver_17 : decode cX0_heightOver 17 = .ok (.aload_n 0, 1) := by decide +kernel
theorem dX0_heightOver_18 : decode cX0_heightOver 18 = .ok (.getfield 9, 3) := by decide +kernel
theorem dX0_heightOver_21 : decode cX0_heightOver 21 = .ok (.iload_n 3, 1) := by decide +kernel
theorem dX0_heightOver_22 : decode cX0_heightOver 22 = .ok (.iaload, 1) := by decide +kernel
theorem dX0_heightOver_23 : decode cX0_heightOver 23 = .ok (.aload_n 0, 1) := by decide +kernel
theorem dX0_heightOver_24 : decode cX0_heightOver 24 = .ok (.getfield 9, 3) := by decide +kernel
theorem dX0_heightOver_27 : decode cX0_heightOver 27 = .ok (.iload_n 1, 1) := by decide +kernel
theorem dX0_heightOver_28 : decode cX0_heightOver 28 = .ok (.iaload, 1) := by decide +kernel
theorem dX0_heightOver_29 : decode cX0_heightOver 29 = .ok (.isub, 1) := by decide +kernel
theorem dX0_heightOver_30 : decode cX0_heightOver 30 = .ok (.iload_n 2, 1) := by decide +kernel
theorem dX0_heightOver_31 : decode cX0_heightOver 31 = .ok (.iload_n 1, 1) := by decide +kernel
theorem dX0_heightOver_32 : decode cX0_heightOver 32 = .ok (.isub, 1) := by decide +kernel
theorem dX0_heightOver_33 : decode cX0_heightOver 33 = .ok (.imul, 1) := by decide +kernel
theorem dX0_heightOver_34 : decode cX0_heightOver 34 = .ok (.isub, 1) := by decide +kernel
theorem dX0_heightOver_35 : decode cX0_heightOver 35 = .ok (.ireturn, 1) := by decide +kernel
theorem dX0_aim_0 : decode cX0_aim 0 = .ok (.iconst 0, 1) := by decide +kernel
theorem dX0_aim_1 : decode cX0_aim 1 = .ok (.istore_n 2, 1) := by decide +kernel
theorem dX0_aim_2 : decode cX0_aim 2 = .ok (.iload_n 2, 1) := by decide +kernel
theorem dX0_aim_3 : decode cX0_aim 3 = .ok (.aload_n 0, 1) := by decide +kernel
theorem dX0_aim_4 : decode cX0_aim 4 = .ok (.getfield 18, 3) := by decide +kernel
theorem dX0_aim_7 : decode cX0_aim 7 = .ok (.iconst 1, 1) := by decide +kernel
theorem dX0_aim_8 : decode cX0_aim 8 = .ok (.isub, 1) := by decide +kernel
theorem dX0_aim_9 : decode cX0_aim 9 = .ok (.if_icmp .ge 21, 3) := by decide +kernel
theorem dX0_aim_12 : decode cX0_aim 12 = .ok (.aload_n 0, 1) := by decide +kernel
theorem dX0_aim_13 : decode cX0_aim 13 = .ok (.getfield 15, 3) := by decide +kernel
theorem dX0_aim_16 : decode cX0_aim 16 = .ok (.iload_n 2, 1) := by decide +kernel
theorem dX0_aim_17 : decode cX0_aim 17 = .ok (.iconst 1, 1) := by decide +kernel
theorem dX0_aim_18 : decode cX0_aim 18 = .ok (.iadd, 1) := by decide +kernel
theorem dX0_aim_19 : decode cX0_aim 19 = .ok (.iaload, 1) := by decide +kernel
theorem dX0_aim_20 : decode cX0_aim 20 = .ok (.iload_n 1, 1) := by decide +kernel
theorem dX0_aim_21 : decode cX0_aim 21 = .ok (.if_icmp .gt 9, 3) := by decide +kernel
theorem dX0_aim_24 : decode cX0_aim 24 = .ok (.iinc 2 1, 3) := by decide +kernel
theorem dX0_aim_27 : decode cX0_aim 27 = .ok (.goto (-25), 3) := by decide +kernel
theorem dX0_aim_30 : decode cX0_aim 30 = .ok (.aload_n 0, 1) := by decide +kernel
theorem dX0_aim_31 : decode cX0_aim 31 = .ok (.aload_n 0, 1) := by decide +kernel
theorem dX0_aim_32 : decode cX0_aim 32 = .ok (.getfield 15, 3) := by decide +kernel
theorem dX0_aim_35 : decode cX0_aim 35 = .ok (.iload_n 2, 1) := by decide +kernel
theorem dX0_aim_36 : decode cX0_aim 36 = .ok (.iaload, 1) := by decide +kernel
theorem dX0_aim_37 : decode cX0_aim 37 = .ok (.putfield 22, 3) := by decide +kernel
theorem dX0_aim_40 : decode cX0_aim 40 = .ok (.aload_n 0, 1) := by decide +kernel
theorem dX0_aim_41 : decode cX0_aim 41 = .ok (.getfield 22, 3) := by decide +kernel
theorem dX0_aim_44 : decode cX0_aim 44 = .ok (.iload_n 1, 1) := by decide +kernel
theorem dX0_aim_45 : decode cX0_aim 45 = .ok (.if_icmp .eq 13, 3) := by decide +kernel
theorem dX0_aim_48 : decode cX0_aim 48 = .ok (.iload_n 2, 1) := by decide +kernel
theorem dX0_aim_49 : decode cX0_aim 49 = .ok (.aload_n 0, 1) := by decide +kernel
theorem dX0_aim_50 : decode cX0_aim 50 = .ok (.getfield 18, 3) := by decide +kernel
theorem dX0_aim_53 : decode cX0_aim 53 = .ok (.iconst 1, 1) := by decide +kernel
theorem dX0_aim_54 : decode cX0_aim 54 = .ok (.isub, 1) := by decide +kernel
theorem dX0_aim_55 : decode cX0_aim 55 = .ok (.if_icmp .lt 19, 3) := by decide +kernel
theorem dX0_aim_58 : decode cX0_aim 58 = .ok (.aload_n 0, 1) := by decide +kernel
theorem dX0_aim_59 : decode cX0_aim 59 = .ok (.iload_n 1, 1) := by decide +kernel
theorem dX0_aim_60 : decode cX0_aim 60 = .ok (.putfield 25, 3) := by decide +kernel
theorem dX0_aim_63 : decode cX0_aim 63 = .ok (.aload_n 0, 1) := by decide +kernel
theorem dX0_aim_64 : decode cX0_aim 64 = .ok (.iconst 1, 1) := by decide +kernel
theorem dX0_aim_65 : decode cX0_aim 65 = .ok (.putfield 28, 3) := by decide +kernel
theorem dX0_aim_68 : decode cX0_aim 68 = .ok (.aload_n 0, 1) := by decide +kernel
theorem dX0_aim_69 : decode cX0_aim 69 = .ok (.iconst 0, 1) := by decide +kernel
theorem dX0_aim_70 : decode cX0_aim 70 = .ok (.putfield 31, 3) := by decide +kernel
theorem dX0_aim_73 : decode cX0_aim 73 = .ok (.return_, 1) := by decide +kernel
theorem dX0_aim_74 : decode cX0_aim 74 = .ok (.aload_n 0, 1) := by decide +kernel
theorem dX0_aim_75 : decode cX0_aim 75 = .ok (.getfield 15, 3) := by decide +kernel
theorem dX0_aim_78 : decode cX0_aim 78 = .ok (.iload_n 2, 1) := by decide +kernel
theorem dX0_aim_79 : decode cX0_aim 79 = .ok (.iconst 1, 1) := by decide +kernel
theorem dX0_aim_80 : decode cX0_aim 80 = .ok (.iadd, 1) := by decide +kernel
theorem dX0_aim_81 : decode cX0_aim 81 = .ok (.iaload, 1) := by decide +kernel
theorem dX0_aim_82 : decode cX0_aim 82 = .ok (.istore_n 3, 1) := by decide +kernel
theorem dX0_aim_83 : decode cX0_aim 83 = .ok (.aload_n 0, 1) := by decide +kernel
theorem dX0_aim_84 : decode cX0_aim 84 = .ok (.iload_n 1, 1) := by decide +kernel
theorem dX0_aim_85 : decode cX0_aim 85 = .ok (.iconst 1, 1) := by decide +kernel
theorem dX0_aim_86 : decode cX0_aim 86 = .ok (.iadd, 1) := by decide +kernel
theorem dX0_aim_87 : decode cX0_aim 87 = .ok (.putfield 25, 3) := by decide +kernel
theorem dX0_aim_90 : decode cX0_aim 90 = .ok (.aload_n 0, 1) := by decide +kernel
theorem dX0_aim_91 : decode cX0_aim 91 = .ok (.getfield 25, 3) := by decide +kernel
theorem dX0_aim_94 : decode cX0_aim 94 = .ok (.iload_n 3, 1) := by decide +kernel
theorem dX0_aim_95 : decode cX0_aim 95 = .ok (.if_icmp .ge 32, 3) := by decide +kernel
theorem dX0_aim_98 : decode cX0_aim 98 = .ok (.aload_n 0, 1) := by decide +kernel
theorem dX0_aim_99 : decode cX0_aim 99 = .ok (.aload_n 0, 1) := by decide +kernel
theorem dX0_aim_100 : decode cX0_aim 100 = .ok (.getfield 22, 3) := by decide +kernel
theorem dX0_aim_103 : decode cX0_aim 103 = .ok (.aload_n 0, 1) := by decide +kernel
theorem dX0_aim_104 : decode cX0_aim 104 = .ok (.getfield 25, 3) := by decide +kernel
theorem dX0_aim_107 : decode cX0_aim 107 = .ok (.iload_n 3, 1) := by decide +kernel
theorem dX0_aim_108 : decode cX0_aim 108 = .ok (.invokevirtual 40, 3) := by decide +kernel
theorem dX0_aim_111 : decode cX0_aim 111 = .ok (.ifCond .eq 16, 3) := by decide +kernel
theorem dX0_aim_114 : decode cX0_aim 114 = .ok (.aload_n 0, 1) := by decide +kernel
theorem dX0_aim_115 : decode cX0_aim 115 = .ok (.dup, 1) := by decide +kernel
theorem dX0_aim_116 : decode cX0_aim 116 = .ok (.getfield 25, 3) := by decide +kernel
theorem dX0_aim_119 : decode cX0_aim 119 = .ok (.iconst 1, 1) := by decide +kernel
theorem dX0_aim_120 : decode cX0_aim 120 = .ok (.iadd, 1) := by decide +kernel
theorem dX0_aim_121 : decode cX0_aim 121 = .ok (.putfield 25, 3) := by decide +kernel
theorem dX0_aim_124 : decode cX0_aim 124 = .ok (.goto (-34), 3) := by decide +kernel
theorem dX0_aim_127 : decode cX0_aim 127 = .ok (.iconst 1, 1) := by decide +kernel
theorem dX0_aim_128 : decode cX0_aim 128 = .ok (.aload_n 0, 1) := by decide +kernel
theorem dX0_aim_129 : decode cX0_aim 129 = .ok (.getfield 25, 3) := by decide +kernel
theorem dX0_aim_132 : decode cX0_aim 132 = .ok (.iload_n 1, 1) := by decide +kernel
theorem dX0_aim_133 : decode cX0_aim 133 = .ok (.isub, 1) := by decide +kernel
theorem dX0_aim_134 : decode cX0_aim 134 = .ok (.iload_n 1, 1) := by decide +kernel
theorem dX0_aim_135 : decode cX0_aim 135 = .ok (.aload_n 0, 1) := by decide +kernel
theorem dX0_aim_136 : decode cX0_aim 136 = .ok (.getfield 22, 3) := by decide +kernel
theorem dX0_aim_139 : decode cX0_aim 139 = .ok (.isub, 1) := by decide +kernel
theorem dX0_aim_140 : decode cX0_aim 140 = .ok (.invokestatic 44, 3) := by decide +kernel
theorem dX0_aim_143 : decode cX0_aim 143 = .ok (.invokestatic 48, 3) := by decide +kernel
theorem dX0_aim_146 : decode cX0_aim 146 = .ok (.istore 4, 2) := by decide +kernel
theorem dX0_aim_148 : decode cX0_aim 148 = .ok (.aload_n 0, 1) := by decide +kernel
theorem dX0_aim_149 : decode cX0_aim 149 = .ok (.aload_n 0, 1) := by decide +kernel
theorem dX0_aim_150 : decode cX0_aim 150 = .ok (.getfield 25, 3) := by decide +kernel
theorem dX0_aim_153 : decode cX0_aim 153 = .ok (.iload_n 1, 1) := by decide +kernel
theorem dX0_aim_154 : decode cX0_aim 154 = .ok (.isub, 1) := by decide +kernel
theorem dX0_aim_155 : decode cX0_aim 155 = .ok (.iload 4, 2) := by decide +kernel
theorem dX0_aim_157 : decode cX0_aim 157 = .ok (.idiv, 1) := by decide +kernel
theorem dX0_aim_158 : decode cX0_aim 158 = .ok (.putfield 28, 3) := by decide +kernel
theorem dX0_aim_161 : decode cX0_aim 161 = .ok (.aload_n 0, 1) := by decide +kernel
theorem dX0_aim_162 : decode cX0_aim 162 = .ok (.iload_n 1, 1) := by decide +kernel
theorem dX0_aim_163 : decode cX0_aim 163 = .ok (.aload_n 0, 1) := by decide +kernel
theorem dX0_aim_164 : decode cX0_aim 164 = .ok (.getfield 22, 3) := by decide +kernel
theorem dX0_aim_167 : decode cX0_aim 167 = .ok (.isub, 1) := by decide +kernel
theorem dX0_aim_168 : decode cX0_aim 168 = .ok (.iload 4, 2) := by decide +kernel
theorem dX0_aim_170 : decode cX0_aim 170 = .ok (.idiv, 1) := by decide +kernel
theorem dX0_aim_171 : decode cX0_aim 171 = .ok (.putfield 31, 3) := by decide +kernel
theorem dX0_aim_174 : decode cX0_aim 174 = .ok (.return_, 1) := by decide +kernel
theorem dX0_valueSum_0 : decode cX0_valueSum 0 = .ok (.aload_n 0, 1) := by decide +kernel
theorem dX0_valueSum_1 : decode cX0_valueSum 1 = .ok (.getfield 28, 3) := by decide +kernel
theorem dX0_valueSum_4 : decode cX0_valueSum 4 = .ok (.aload_n 0, 1) := by decide +kernel
theorem dX0_valueSum_5 : decode cX0_valueSum 5 = .ok (.getfield 9, 3) := by decide +kernel
theorem dX0_valueSum_8 : decode cX0_valueSum 8 = .ok (.aload_n 0, 1) := by decide +kernel
theorem dX0_valueSum_9 : decode cX0_valueSum 9 = .ok (.getfield 22, 3) := by decide +kernel
theorem dX0_valueSum_12 : decode cX0_valueSum 12 = .ok (.iaload, 1) := by decide +kernel
theorem dX0_valueSum_13 : decode cX0_valueSum 13 = .ok (.imul, 1) := by decide +kernel
theorem dX0_valueSum_14 : decode cX0_valueSum 14 = .ok (.aload_n 0, 1) := by decide +kernel
theorem dX0_valueSum_15 : decode cX0_valueSum 15 = .ok (.getfield 31, 3) := by decide +kernel
theorem dX0_valueSum_18 : decode cX0_valueSum 18 = .ok (.aload_n 0, 1) := by decide +kernel
theorem dX0_valueSum_19 : decode cX0_valueSum 19 = .ok (.getfield 9, 3) := by decide +kernel
theorem dX0_valueSum_22 : decode cX0_valueSum 22 = .ok (.aload_n 0, 1) := by decide +kernel
theorem dX0_valueSum_23 : decode cX0_valueSum 23 = .ok (.getfield 25, 3) := by decide +kernel
theorem dX0_valueSum_26 : decode cX0_valueSum 26 = .ok (.iaload, 1) := by decide +kernel
theorem dX0_valueSum_27 : decode cX0_valueSum 27 = .ok (.imul, 1) := by decide +kernel
theorem dX0_valueSum_28 : decode cX0_valueSum 28 = .ok (.iadd, 1) := by decide +kernel
theorem dX0_valueSum_29 : decode cX0_valueSum 29 = .ok (.ireturn, 1) := by decide +kernel
theorem dX0_tellEnvelope_0 : decode cX0_tellEnvelope 0 = .ok (.aload_n 1, 1) := by decide +kernel
theorem dX0_tellEnvelope_1 : decode cX0_tellEnvelope 1 = .ok (.aload_n 0, 1) := by decide +kernel
theorem dX0_tellEnvelope_2 : decode cX0_tellEnvelope 2 = .ok (.invokevirtual 53, 3) := by decide +kernel
theorem dX0_tellEnvelope_5 : decode cX0_tellEnvelope 5 = .ok (.aload_n 0, 1) := by decide +kernel
theorem dX0_tellEnvelope_6 : decode cX0_tellEnvelope 6 = .ok (.getfield 28, 3) := by decide +kernel
theorem dX0_tellEnvelope_9 : decode cX0_tellEnvelope 9 = .ok (.aload_n 0, 1) := by decide +kernel
theorem dX0_tellEnvelope_10 : decode cX0_tellEnvelope 10 = .ok (.getfield 31, 3) := by decide +kernel
theorem dX0_tellEnvelope_13 : decode cX0_tellEnvelope 13 = .ok (.iadd, 1) := by decide +kernel
theorem dX0_tellEnvelope_14 : decode cX0_tellEnvelope 14 = .ok (.invokevirtual 57, 3) := by decide +kernel
theorem dX0_tellEnvelope_17 : decode cX0_tellEnvelope 17 = .ok (.return_, 1) := by decide +kernel
theorem dX1_init_0 : decode cX1_init 0 = .ok (.aload_n 0, 1) := by decide +kernel
theorem dX1_init_1 : decode cX1_init 1 = .ok (.invokespecial 1, 3) := by decide +kernel
theorem dX1_init_4 : decode cX1_init 4 = .ok (.aload_n 0, 1) := by decide +kernel
theorem dX1_init_5 : decode cX1_init 5 = .ok (.iconst 0, 1) := by decide +kernel
theorem dX1_init_6 : decode cX1_init 6 = .ok (.putfield 7, 3) := by decide +kernel
theorem dX1_init_9 : decode cX1_init 9 = .ok (.aload_n 0, 1) := by decide +kernel
theorem dX1_init_10 : decode cX1_init 10 = .ok (.iconst 1, 1) := by decide +kernel
theorem dX1_init_11 : decode cX1_init 11 = .ok (.putfield 13, 3) := by decide +kernel
theorem dX1_init_14 : decode cX1_init 14 = .ok (.return_, 1) := by decide +kernel
theorem dX1_become_0 : decode cX1_become 0 = .ok (.iload_n 1, 1) := by decide +kernel
theorem dX1_become_1 : decode cX1_become 1 = .ok (.iload_n 2, 1) := by decide +kernel
theorem dX1_become_2 : decode cX1_become 2 = .ok (.invokestatic 16, 3) := by decide +kernel
theorem dX1_become_5 : decode cX1_become 5 = .ok (.istore_n 3, 1) := by decide +kernel
theorem dX1_become_6 : decode cX1_become 6 = .ok (.aload_n 0, 1) := by decide +kernel
theorem dX1_become_7 : decode cX1_become 7 = .ok (.iload_n 3, 1) := by decide +kernel
theorem dX1_become_8 : decode cX1_become 8 = .ok (.iconst 1, 1) := by decide +kernel
theorem dX1_become_9 : decode cX1_become 9 = .ok (.if_icmp .le 9, 3) := by decide +kernel
theorem dX1_become_12 : decode cX1_become 12 = .ok (.iload_n 1, 1) := by decide +kernel
theorem dX1_become_13 : decode cX1_become 13 = .ok (.iload_n 3, 1) := by decide +kernel
theorem dX1_become_14 : decode cX1_become 14 = .ok (.idiv, 1) := by decide +kernel
theorem dX1_become_15 : decode cX1_become 15 = .ok (.goto 4, 3) := by decide +kernel
theorem dX1_become_18 : decode cX1_become 18 = .ok (.iload_n 1, 1) := by decide +kernel
theorem dX1_become_19 : decode cX1_become 19 = .ok (.putfield 7, 3) := by decide +kernel
theorem dX1_become_22 : decode cX1_become 22 = .ok (.aload_n 0, 1) := by decide +kernel
theorem dX1_become_23 : decode cX1_become 23 = .ok (.iload_n 3, 1) := by decide +kernel
theorem dX1_become_24 : decode cX1_become 24 = .ok (.iconst 1, 1) := by decide +kernel
theorem dX1_become_25 : decode cX1_become 25 = .ok (.if_icmp .le 9, 3) := by decide +kernel
theorem dX1_become_28 : decode cX1_become 28 = .ok (.iload_n 2, 1) := by decide +kernel
theorem dX1_become_29 : decode cX1_become 29 = .ok (.iload_n 3, 1) := by decide +kernel
theorem dX1_become_30 : decode cX1_become 30 = .ok (.idiv, 1) := by decide +kernel
theorem dX1_become_31 : decode cX1_become 31 = .ok (.goto 4, 3) := by decide +kernel
theorem dX1_become_34 : decode cX1_become 34 = .ok (.iload_n 2, 1) := by decide +kernel
theorem dX1_become_35 : decode cX1_become 35 = .ok (.putfield 13, 3) := by decide +kernel
theorem dX1_become_38 : decode cX1_become 38 = .ok (.return_, 1) := by decide +kernel
theorem dX2_init_0 : decode cX2_init 0 = .ok (.aload_n 0, 1) := by decide +kernel
theorem dX2_init_1 : decode cX2_init 1 = .ok (.invokespecial 3, 3) := by decide +kernel
theorem dX2_init_4 : decode cX2_init 4 = .ok (.aload_n 0, 1) := by decide +kernel
theorem dX2_init_5 : decode cX2_init 5 = .ok (.bipush 7, 2) := by decide +kernel
theorem dX2_init_7 : decode cX2_init 7 = .ok (.anewarray 9, 3) := by decide +kernel
theorem dX2_init_10 : decode cX2_init 10 = .ok (.putfield 11, 3) := by decide +kernel
theorem dX2_init_13 : decode cX2_init 13 = .ok (.aload_n 0, 1) := by decide +kernel
theorem dX2_init_14 : decode cX2_init 14 = .ok (.iconst 0, 1) := by decide +kernel
theorem dX2_init_15 : decode cX2_init 15 = .ok (.putfield 15, 3) := by decide +kernel
theorem dX2_init_18 : decode cX2_init 18 = .ok (.aload_n 0, 1) := by decide +kernel
theorem dX2_init_19 : decode cX2_init 19 = .ok (.iconst 0, 1) := by decide +kernel
theorem dX2_init_20 : decode cX2_init 20 = .ok (.putfield 19, 3) := by decide +kernel
theorem dX2_init_23 : decode cX2_init 23 = .ok (.iconst 0, 1) := by decide +kernel
theorem dX2_init_24 : decode cX2_init 24 = .ok (.istore_n 1, 1) := by decide +kernel
theorem dX2_init_25 : decode cX2_init 25 = .ok (.iload_n 1, 1) := by decide +kernel
theorem dX2_init_26 : decode cX2_init 26 = .ok (.bipush 7, 2) := by decide +kernel
theorem dX2_init_28 : decode cX2_init 28 = .ok (.if_icmp .ge 22, 3) := by decide +kernel
theorem dX2_init_31 : decode cX2_init 31 = .ok (.aload_n 0, 1) := by decide +kernel
theorem dX2_init_32 : decode cX2_init 32 = .ok (.getfield 11, 3) := by decide +kernel
theorem dX2_init_35 : decode cX2_init 35 = .ok (.iload_n 1, 1) := by decide +kernel
theorem dX2_init_36 : decode cX2_init 36 = .ok (.new 9, 3) := by decide +kernel
theorem dX2_init_39 : decode cX2_init 39 = .ok (.dup, 1) := by decide +kernel
theorem dX2_init_40 : decode cX2_init 40 = .ok (.invokespecial 22, 3) := by decide +kernel
theorem dX2_init_43 : decode cX2_init 43 = .ok (.aastore, 1) := by decide +kernel
theorem dX2_init_44 : decode cX2_init 44 = .ok (.iinc 1 1, 3) := by decide +kernel
theorem dX2_init_47 : decode cX2_init 47 = .ok (.goto (-22), 3) := by decide +kernel
theorem dX2_init_50 : decode cX2_init 50 = .ok (.return_, 1) := by decide +kernel
theorem dX2_note_0 : decode cX2_note 0 = .ok (.aload_n 0, 1) := by decide +kernel
theorem dX2_note_1 : decode cX2_note 1 = .ok (.getfield 11, 3) := by decide +kernel
theorem dX2_note_4 : decode cX2_note 4 = .ok (.aload_n 0, 1) := by decide +kernel
theorem dX2_note_5 : decode cX2_note 5 = .ok (.getfield 15, 3) := by decide +kernel
theorem dX2_note_8 : decode cX2_note 8 = .ok (.aaload, 1) := by decide +kernel
theorem dX2_note_9 : decode cX2_note 9 = .ok (.aload_n 1, 1) := by decide +kernel
theorem dX2_note_10 : decode cX2_note 10 = .ok (.invokevirtual 23, 3) := by decide +kernel
theorem dX2_note_13 : decode cX2_note 13 = .ok (.return_, 1) := by decide +kernel
theorem dX2_keep_0 : decode cX2_keep 0 = .ok (.aload_n 0, 1) := by decide +kernel
theorem dX2_keep_1 : decode cX2_keep 1 = .ok (.aload_n 0, 1) := by decide +kernel
theorem dX2_keep_2 : decode cX2_keep 2 = .ok (.getfield 15, 3) := by decide +kernel
theorem dX2_keep_5 : decode cX2_keep 5 = .ok (.iconst 1, 1) := by decide +kernel
theorem dX2_keep_6 : decode cX2_keep 6 = .ok (.iadd, 1) := by decide +kernel
theorem dX2_keep_7 : decode cX2_keep 7 = .ok (.bipush 7, 2) := by decide +kernel
theorem dX2_keep_9 : decode cX2_keep 9 = .ok (.if_icmp .ge 12, 3) := by decide +kernel
theorem dX2_keep_12 : decode cX2_keep 12 = .ok (.aload_n 0, 1) := by decide +kernel
theorem dX2_keep_13 : decode cX2_keep 13 = .ok (.getfield 15, 3) := by decide +kernel
theorem dX2_keep_16 : decode cX2_keep 16 = .ok (.iconst 1, 1) := by decide +kernel
theorem dX2_keep_17 : decode cX2_keep 17 = .ok (.iadd, 1) := by decide +kernel
theorem dX2_keep_18 : decode cX2_keep 18 = .ok (.goto 4, 3) := by decide +kernel
theorem dX2_keep_21 : decode cX2_keep 21 = .ok (.iconst 0, 1) := by decide +kernel
theorem dX2_keep_22 : decode cX2_keep 22 = .ok (.putfield 15, 3) := by decide +kernel
theorem dX2_keep_25 : decode cX2_keep 25 = .ok (.aload_n 0, 1) := by decide +kernel
theorem dX2_keep_26 : decode cX2_keep 26 = .ok (.aload_n 0, 1) := by decide +kernel
theorem dX2_keep_27 : decode cX2_keep 27 = .ok (.getfield 19, 3) := by decide +kernel
theorem dX2_keep_30 : decode cX2_keep 30 = .ok (.iconst 1, 1) := by decide +kernel
theorem dX2_keep_31 : decode cX2_keep 31 = .ok (.iadd, 1) := by decide +kernel
theorem dX2_keep_32 : decode cX2_keep 32 = .ok (.bipush 6, 2) := by decide +kernel
theorem dX2_keep_34 : decode cX2_keep 34 = .ok (.invokestatic 27, 3) := by decide +kernel
theorem dX2_keep_37 : decode cX2_keep 37 = .ok (.putfield 19, 3) := by decide +kernel
theorem dX2_keep_40 : decode cX2_keep 40 = .ok (.return_, 1) := by decide +kernel
theorem dX3_init_0 : decode cX3_init 0 = .ok (.aload_n 0, 1) := by decide +kernel
theorem dX3_init_1 : decode cX3_init 1 = .ok (.invokespecial 3, 3) := by decide +kernel
theorem dX3_init_4 : decode cX3_init 4 = .ok (.aload_n 0, 1) := by decide +kernel
theorem dX3_init_5 : decode cX3_init 5 = .ok (.bipush 101, 2) := by decide +kernel
theorem dX3_init_7 : decode cX3_init 7 = .ok (.newarray .int, 2) := by decide +kernel
theorem dX3_init_9 : decode cX3_init 9 = .ok (.putfield 9, 3) := by decide +kernel
theorem dX3_init_12 : decode cX3_init 12 = .ok (.return_, 1) := by decide +kernel
theorem dX3_clear_0 : decode cX3_clear 0 = .ok (.iconst 0, 1) := by decide +kernel
theorem dX3_clear_1 : decode cX3_clear 1 = .ok (.istore_n 1, 1) := by decide +kernel
theorem dX3_clear_2 : decode cX3_clear 2 = .ok (.iload_n 1, 1) := by decide +kernel
theorem dX3_clear_3 : decode cX3_clear 3 = .ok (.bipush 100, 2) := by decide +kernel
theorem dX3_clear_5 : decode cX3_clear 5 = .ok (.if_icmp .gt 16, 3) := by decide +kernel
theorem dX3_clear_8 : decode cX3_clear 8 = .ok (.aload_n 0, 1) := by decide +kernel
theorem dX3_clear_9 : decode cX3_clear 9 = .ok (.getfield 9, 3) := by decide +kernel
theorem dX3_clear_12 : decode cX3_clear 12 = .ok (.iload_n 1, 1) := by decide +kernel
theorem dX3_clear_13 : decode cX3_clear 13 = .ok (.iconst 0, 1) := by decide +kernel
theorem dX3_clear_14 : decode cX3_clear 14 = .ok (.iastore, 1) := by decide +kernel
theorem dX3_clear_15 : decode cX3_clear 15 = .ok (.iinc 1 1, 3) := by decide +kernel
theorem dX3_clear_18 : decode cX3_clear 18 = .ok (.goto (-16), 3) := by decide +kernel
theorem dX3_clear_21 : decode cX3_clear 21 = .ok (.return_, 1) := by decide +kernel
theorem dX3_gather_0 : decode cX3_gather 0 = .ok (.aload_n 0, 1) := by decide +kernel
theorem dX3_gather_1 : decode cX3_gather 1 = .ok (.invokevirtual 15, 3) := by decide +kernel
theorem dX3_gather_4 : decode cX3_gather 4 = .ok (.iconst 0, 1) := by decide +kernel
theorem dX3_gather_5 : decode cX3_gather 5 = .ok (.istore_n 3, 1) := by decide +kernel
theorem dX3_gather_6 : decode cX3_gather 6 = .ok (.iload_n 3, 1) := by decide +kernel
theorem dX3_gather_7 : decode cX3_gather 7 = .ok (.aload_n 1, 1) := by decide +kernel
theorem dX3_gather_8 : decode cX3_gather 8 = .ok (.getfield 18, 3) := by decide +kernel
theorem dX3_gather_11 : decode cX3_gather 11 = .ok (.if_icmp .ge 27, 3) := by decide +kernel
theorem dX3_gather_14 : decode cX3_gather 14 = .ok (.aload_n 0, 1) := by decide +kernel
theorem dX3_gather_15 : decode cX3_gather 15 = .ok (.aload_n 1, 1) := by decide +kernel
theorem dX3_gather_16 : decode cX3_gather 16 = .ok (.getfield 24, 3) := by decide +kernel
theorem dX3_gather_19 : decode cX3_gather 19 = .ok (.iload_n 3, 1) := by decide +kernel
theorem dX3_gather_20 : decode cX3_gather 20 = .ok (.iaload, 1) := by decide +kernel
theorem dX3_gather_21 : decode cX3_gather 21 = .ok (.aload_n 1, 1) := by decide +kernel
theorem dX3_gather_22 : decode cX3_gather 22 = .ok (.getfield 27, 3) := by decide +kernel
theorem dX3_gather_25 : decode cX3_gather 25 = .ok (.iload_n 3, 1) := by decide +kernel
theorem dX3_gather_26 : decode cX3_gather 26 = .ok (.iaload, 1) := by decide +kernel
theorem dX3_gather_27 : decode cX3_gather 27 = .ok (.iload_n 2, 1) := by decide +kernel
theorem dX3_gather_28 : decode cX3_gather 28 = .ok (.imul, 1) := by decide +kernel
theorem dX3_gather_29 : decode cX3_gather 29 = .ok (.invokevirtual 30, 3) := by decide +kernel
theorem dX3_gather_32 : decode cX3_gather 32 = .ok (.iinc 3 1, 3) := by decide +kernel
theorem dX3_gather_35 : decode cX3_gather 35 = .ok (.goto (-29), 3) := by decide +kernel
theorem dX3_gather_38 : decode cX3_gather 38 = .ok (.return_, 1) := by decide +kernel
theorem dX3_add_0 : decode cX3_add 0 = .ok (.iload_n 1, 1) := by decide +kernel
theorem dX3_add_1 : decode cX3_add 1 = .ok (.invokestatic 34, 3) := by decide +kernel
theorem dX3_add_4 : decode cX3_add 4 = .ok (.ifCond .eq 13, 3) := by decide +kernel
theorem dX3_add_7 : decode cX3_add 7 = .ok (.aload_n 0, 1) := by decide +kernel
theorem dX3_add_8 : decode cX3_add 8 = .ok (.getfield 9, 3) := by decide +kernel
theorem dX3_add_11 : decode cX3_add 11 = .ok (.iload_n 1, 1) := by decide +kernel
theorem dX3_add_12 : decode cX3_add 12 = .ok (.dup2, 1) := by decide +kernel
theorem dX3_add_13 : decode cX3_add 13 = .ok (.iaload, 1) := by decide +kernel
theorem dX3_add_14 : decode cX3_add 14 = .ok (.iload_n 2, 1) := by decide +kernel
theorem dX3_add_15 : decode cX3_add 15 = .ok (.iadd, 1) := by decide +kernel
theorem dX3_add_16 : decode cX3_add 16 = .ok (.iastore, 1) := by decide +kernel
theorem dX3_add_17 : decode cX3_add 17 = .ok (.return_, 1) := by decide +kernel
theorem dX3_reduce_0 : decode cX3_reduce 0 = .ok (.iconst 0, 1) := by decide +kernel
theorem dX3_reduce_1 : decode cX3_reduce 1 = .ok (.istore_n 1, 1) := by decide +kernel
theorem dX3_reduce_2 : decode cX3_reduce 2 = .ok (.iconst 0, 1) := by decide +kernel
theorem dX3_reduce_3 : decode cX3_reduce 3 = .ok (.istore_n 2, 1) := by decide +kernel
theorem dX3_reduce_4 : decode cX3_reduce 4 = .ok (.iload_n 2, 1) := by decide +kernel
theorem dX3_reduce_5 : decode cX3_reduce 5 = .ok (.bipush 100, 2) := by decide +kernel
theorem dX3_reduce_7 : decode cX3_reduce 7 = .ok (.if_icmp .gt 20, 3) := by decide +kernel
theorem dX3_reduce_10 : decode cX3_reduce 10 = .ok (.aload_n 0, 1) := by decide +kernel
theorem dX3_reduce_11 : decode cX3_reduce 11 = .ok (.getfield 9, 3) := by decide +kernel
theorem dX3_reduce_14 : decode cX3_reduce 14 = .ok (.iload_n 2, 1) := by decide +kernel
theorem dX3_reduce_15 : decode cX3_reduce 15 = .ok (.iaload, 1) := by decide +kernel
theorem dX3_reduce_16 : decode cX3_reduce 16 = .ok (.iload_n 1, 1) := by decide +kernel
theorem dX3_reduce_17 : decode cX3_reduce 17 = .ok (.invokestatic 38, 3) := by decide +kernel
theorem dX3_reduce_20 : decode cX3_reduce 20 = .ok (.istore_n 1, 1) := by decide +kernel
theorem dX3_reduce_21 : decode cX3_reduce 21 = .ok (.iinc 2 1, 3) := by decide +kernel
theorem dX3_reduce_24 : decode cX3_reduce 24 = .ok (.goto (-20), 3) := by decide +kernel
theorem dX3_reduce_27 : decode cX3_reduce 27 = .ok (.iload_n 1, 1) := by decide +kernel
theorem dX3_reduce_28 : decode cX3_reduce 28 = .ok (.iconst 1, 1) := by decide +kernel
theorem dX3_reduce_29 : decode cX3_reduce 29 = .ok (.if_icmp .le 27, 3) := by decide +kernel
theorem dX3_reduce_32 : decode cX3_reduce 32 = .ok (.iconst 0, 1) := by decide +kernel
theorem dX3_reduce_33 : decode cX3_reduce 33 = .ok (.istore_n 2, 1) := by decide +kernel
theorem dX3_reduce_34 : decode cX3_reduce 34 = .ok (.iload_n 2, 1) := by decide +kernel
theorem dX3_reduce_35 : decode cX3_reduce 35 = .ok (.bipush 100, 2) := by decide +kernel
theorem dX3_reduce_37 : decode cX3_reduce 37 = .ok (.if_icmp .gt 19, 3) := by decide +kernel
theorem dX3_reduce_40 : decode cX3_reduce 40 = .ok (.aload_n 0, 1) := by decide +kernel
theorem dX3_reduce_41 : decode cX3_reduce 41 = .ok (.getfield 9, 3) := by decide +kernel
theorem dX3_reduce_44 : decode cX3_reduce 44 = .ok (.iload_n 2, 1) := by decide +kernel
theorem dX3_reduce_45 : decode cX3_reduce 45 = .ok (.dup2, 1) := by decide +kernel
theorem dX3_reduce_46 : decode cX3_reduce 46 = .ok (.iaload, 1) := by decide +kernel
theorem dX3_reduce_47 : decode cX3_reduce 47 = .ok (.iload_n 1, 1) := by decide +kernel
theorem dX3_reduce_48 : decode cX3_reduce 48 = .ok (.idiv, 1) := by decide +kernel
theorem dX3_reduce_49 : decode cX3_reduce 49 = .ok (.iastore, 1) := by decide +kernel
theorem dX3_reduce_50 : decode cX3_reduce 50 = .ok (.iinc 2 1, 3) := by decide +kernel
theorem dX3_reduce_53 : decode cX3_reduce 53 = .ok (.goto (-19), 3) := by decide +kernel
theorem dX3_reduce_56 : decode cX3_reduce 56 = .ok (.return_, 1) := by decide +kernel
theorem dX3_fits_0 : decode cX3_fits 0 = .ok (.iconst 0, 1) := by decide +kernel
theorem dX3_fits_1 : decode cX3_fits 1 = .ok (.istore_n 1, 1) := by decide +kernel
theorem dX3_fits_2 : decode cX3_fits 2 = .ok (.iconst 0, 1) := by decide +kernel
theorem dX3_fits_3 : decode cX3_fits 3 = .ok (.istore_n 2, 1) := by decide +kernel
theorem dX3_fits_4 : decode cX3_fits 4 = .ok (.iload_n 2, 1) := by decide +kernel
theorem dX3_fits_5 : decode cX3_fits 5 = .ok (.bipush 100, 2) := by decide +kernel
theorem dX3_fits_7 : decode cX3_fits 7 = .ok (.if_icmp .gt 35, 3) := by decide +kernel
theorem dX3_fits_10 : decode cX3_fits 10 = .ok (.aload_n 0, 1) := by decide +kernel
theorem dX3_fits_11 : decode cX3_fits 11 = .ok (.getfield 9, 3) := by decide +kernel
theorem dX3_fits_14 : decode cX3_fits 14 = .ok (.iload_n 2, 1) := by decide +kernel
theorem dX3_fits_15 : decode cX3_fits 15 = .ok (.iaload, 1) := by decide +kernel
theorem dX3_fits_16 : decode cX3_fits 16 = .ok (.sipush 999, 3) := by decide +kernel
theorem dX3_fits_19 : decode cX3_fits 19 = .ok (.if_icmp .le 5, 3) := by decide +kernel
theorem dX3_fits_22 : decode cX3_fits 22 = .ok (.iconst 0, 1) := by decide +kernel
theorem dX3_fits_23 : decode cX3_fits 23 = .ok (.ireturn, 1) := by decide +kernel
theorem dX3_fits_24 : decode cX3_fits 24 = .ok (.aload_n 0, 1) := by decide +kernel
theorem dX3_fits_25 : decode cX3_fits 25 = .ok (.getfield 9, 3) := by decide +kernel
theorem dX3_fits_28 : decode cX3_fits 28 = .ok (.iload_n 2, 1) := by decide +kernel
theorem dX3_fits_29 : decode cX3_fits 29 = .ok (.iaload, 1) := by decide +kernel
theorem dX3_fits_30 : decode cX3_fits 30 = .ok (.ifCond .le 6, 3) := by decide +kernel
theorem dX3_fits_33 : decode cX3_fits 33 = .ok (.iinc 1 1, 3) := by decide +kernel
theorem dX3_fits_36 : decode cX3_fits 36 = .ok (.iinc 2 1, 3) := by decide +kernel
theorem dX3_fits_39 : decode cX3_fits 39 = .ok (.goto (-35), 3) := by decide +kernel
theorem dX3_fits_42 : decode cX3_fits 42 = .ok (.iload_n 1, 1) := by decide +kernel
theorem dX3_fits_43 : decode cX3_fits 43 = .ok (.bipush 6, 2) := by decide +kernel
theorem dX3_fits_45 : decode cX3_fits 45 = .ok (.if_icmp .gt 7, 3) := by decide +kernel
theorem dX3_fits_48 : decode cX3_fits 48 = .ok (.iconst 1, 1) := by decide +kernel
theorem dX3_fits_49 : decode cX3_fits 49 = .ok (.goto 4, 3) := by decide +kernel
theorem dX3_fits_52 : decode cX3_fits 52 = .ok (.iconst 0, 1) := by decide +kernel
theorem dX3_fits_53 : decode cX3_fits 53 = .ok (.ireturn, 1) := by decide +kernel
theorem dX3_pourInto_0 : decode cX3_pourInto 0 = .ok (.aload_n 1, 1) := by decide +kernel
theorem dX3_pourInto_1 : decode cX3_pourInto 1 = .ok (.iconst 0, 1) := by decide +kernel
theorem dX3_pourInto_2 : decode cX3_pourInto 2 = .ok (.putfield 18, 3) := by decide +kernel
theorem dX3_pourInto_5 : decode cX3_pourInto 5 = .ok (.iconst 0, 1) := by decide +kernel
theorem dX3_pourInto_6 : decode cX3_pourInto 6 = .ok (.istore_n 2, 1) := by decide +kernel
theorem dX3_pourInto_7 : decode cX3_pourInto 7 = .ok (.iload_n 2, 1) := by decide +kernel
theorem dX3_pourInto_8 : decode cX3_pourInto 8 = .ok (.bipush 100, 2) := by decide +kernel
theorem dX3_pourInto_10 : decode cX3_pourInto 10 = .ok (.if_icmp .gt 29, 3) := by decide +kernel
theorem dX3_pourInto_13 : decode cX3_pourInto 13 = .ok (.aload_n 0, 1) := by decide +kernel
theorem dX3_pourInto_14 : decode cX3_pourInto 14 = .ok (.getfield 9, 3) := by decide +kernel
theorem dX3_pourInto_17 : decode cX3_pourInto 17 = .ok (.iload_n 2, 1) := by decide +kernel
theorem dX3_pourInto_18 : decode cX3_pourInto 18 = .ok (.iaload, 1) := by decide +kernel
theorem dX3_pourInto_19 : decode cX3_pourInto 19 = .ok (.ifCond .le 14, 3) := by decide +kernel
theorem dX3_pourInto_22 : decode cX3_pourInto 22 = .ok (.aload_n 1, 1) := by decide +kernel
theorem dX3_pourInto_23 : decode cX3_pourInto 23 = .ok (.iload_n 2, 1) := by decide +kernel
theorem dX3_pourInto_24 : decode cX3_pourInto 24 = .ok (.aload_n 0, 1) := by decide +kernel
theorem dX3_pourInto_25 : decode cX3_pourInto 25 = .ok (.getfield 9, 3) := by decide +kernel
theorem dX3_pourInto_28 : decode cX3_pourInto 28 = .ok (.iload_n 2, 1) := by decide +kernel
theorem dX3_pourInto_29 : decode cX3_pourInto 29 = .ok (.iaload, 1) := by decide +kernel
theorem dX3_pourInto_30 : decode cX3_pourInto 30 = .ok (.invokevirtual 42, 3) := by decide +kernel
theorem dX3_pourInto_33 : decode cX3_pourInto 33 = .ok (.iinc 2 1, 3) := by decide +kernel
theorem dX3_pourInto_36 : decode cX3_pourInto 36 = .ok (.goto (-29), 3) := by decide +kernel
theorem dX3_pourInto_39 : decode cX3_pourInto 39 = .ok (.return_, 1) := by decide +kernel
theorem dX4_init_0 : decode cX4_init 0 = .ok (.aload_n 0, 1) := by decide +kernel
theorem dX4_init_1 : decode cX4_init 1 = .ok (.invokespecial 3, 3) := by decide +kernel
theorem dX4_init_4 : decode cX4_init 4 = .ok (.aload_n 0, 1) := by decide +kernel
theorem dX4_init_5 : decode cX4_init 5 = .ok (.bipush 80, 2) := by decide +kernel
theorem dX4_init_7 : decode cX4_init 7 = .ok (.newarray .char, 2) := by decide +kernel
theorem dX4_init_9 : decode cX4_init 9 = .ok (.putfield 11, 3) := by decide +kernel
theorem dX4_init_12 : decode cX4_init 12 = .ok (.aload_n 0, 1) := by decide +kernel
theorem dX4_init_13 : decode cX4_init 13 = .ok (.bipush 12, 2) := by decide +kernel
theorem dX4_init_15 : decode cX4_init 15 = .ok (.newarray .int, 2) := by decide +kernel
theorem dX4_init_17 : decode cX4_init 17 = .ok (.putfield 17, 3) := by decide +kernel
theorem dX4_init_20 : decode cX4_init 20 = .ok (.aload_n 0, 1) := by decide +kernel
theorem dX4_init_21 : decode cX4_init 21 = .ok (.iconst 0, 1) := by decide +kernel
theorem dX4_init_22 : decode cX4_init 22 = .ok (.putfield 21, 3) := by decide +kernel
theorem dX4_init_25 : decode cX4_init 25 = .ok (.aload_n 0, 1) := by decide +kernel
theorem dX4_init_26 : decode cX4_init 26 = .ok (.iconst 0, 1) := by decide +kernel
theorem dX4_init_27 : decode cX4_init 27 = .ok (.putfield 25, 3) := by decide +kernel
theorem dX4_init_30 : decode cX4_init 30 = .ok (.aload_n 0, 1) := by decide +kernel
theorem dX4_init_31 : decode cX4_init 31 = .ok (.iconst 0, 1) := by decide +kernel
theorem dX4_init_32 : decode cX4_init 32 = .ok (.putfield 28, 3) := by decide +kernel
theorem dX4_init_35 : decode cX4_init 35 = .ok (.aload_n 0, 1) := by decide +kernel
theorem dX4_init_36 : decode cX4_init 36 = .ok (.iconst 0, 1) := by decide +kernel
theorem dX4_init_37 : decode cX4_init 37 = .ok (.putfield 31, 3) := by decide +kernel
theorem dX4_init_40 : decode cX4_init 40 = .ok (.return_, 1) := by decide +kernel
theorem dX5_init_0 : decode cX5_init 0 = .ok (.aload_n 0, 1) := by decide +kernel
theorem dX5_init_1 : decode cX5_init 1 = .ok (.invokespecial 3, 3) := by decide +kernel
theorem dX5_init_4 : decode cX5_init 4 = .ok (.aload_n 0, 1) := by decide +kernel
theorem dX5_init_5 : decode cX5_init 5 = .ok (.iconst 5, 1) := by decide +kernel
theorem dX5_init_6 : decode cX5_init 6 = .ok (.newarray .int, 2) := by decide +kernel
theorem dX5_init_8 : decode cX5_init 8 = .ok (.putfield 11, 3) := by decide +kernel
theorem dX5_init_11 : decode cX5_init 11 = .ok (.aload_n 0, 1) := by decide +kernel
theorem dX5_init_12 : decode cX5_init 12 = .ok (.iconst 5, 1) := by decide +kernel
theorem dX5_init_13 : decode cX5_init 13 = .ok (.newarray .int, 2) := by decide +kernel
theorem dX5_init_15 : decode cX5_init 15 = .ok (.putfield 15, 3) := by decide +kernel
theorem dX5_init_18 : decode cX5_init 18 = .ok (.aload_n 0, 1) := by decide +kernel
theorem dX5_init_19 : decode cX5_init 19 = .ok (.iconst 5, 1) := by decide +kernel
theorem dX5_init_20 : decode cX5_init 20 = .ok (.newarray .int, 2) := by decide +kernel
theorem dX5_init_22 : decode cX5_init 22 = .ok (.putfield 18, 3) := by decide +kernel
theorem dX5_init_25 : decode cX5_init 25 = .ok (.aload_n 0, 1) := by decide +kernel
theorem dX5_init_26 : decode cX5_init 26 = .ok (.iconst 5, 1) := by decide +kernel
theorem dX5_init_27 : decode cX5_init 27 = .ok (.newarray .int, 2) := by decide +kernel
theorem dX5_init_29 : decode cX5_init 29 = .ok (.putfield 21, 3) := by decide +kernel
theorem dX5_init_32 : decode cX5_init 32 = .ok (.aload_n 0, 1) := by decide +kernel
theorem dX5_init_33 : decode cX5_init 33 = .ok (.iconst 0, 1) := by decide +kernel
theorem dX5_init_34 : decode cX5_init 34 = .ok (.putfield 24, 3) := by decide +kernel
theorem dX5_init_37 : decode cX5_init 37 = .ok (.return_, 1) := by decide +kernel
theorem dX5_copyFrom_0 : decode cX5_copyFrom 0 = .ok (.aload_n 1, 1) := by decide +kernel
theorem dX5_copyFrom_1 : decode cX5_copyFrom 1 = .ok (.getfield 11, 3) := by decide +kernel
theorem dX5_copyFrom_4 : decode cX5_copyFrom 4 = .ok (.iconst 0, 1) := by decide +kernel
theorem dX5_copyFrom_5 : decode cX5_copyFrom 5 = .ok (.aload_n 0, 1) := by decide +kernel
theorem dX5_copyFrom_6 : decode cX5_copyFrom 6 = .ok (.getfield 11, 3) := by decide +kernel
theorem dX5_copyFrom_9 : decode cX5_copyFrom 9 = .ok (.iconst 0, 1) := by decide +kernel
theorem dX5_copyFrom_10 : decode cX5_copyFrom 10 = .ok (.iconst 5, 1) := by decide +kernel
theorem dX5_copyFrom_11 : decode cX5_copyFrom 11 = .ok (.invokestatic 28, 3) := by decide +kernel
theorem dX5_copyFrom_14 : decode cX5_copyFrom 14 = .ok (.aload_n 1, 1) := by decide +kernel
theorem dX5_copyFrom_15 : decode cX5_copyFrom 15 = .ok (.getfield 15, 3) := by decide +kernel
theorem dX5_copyFrom_18 : decode cX5_copyFrom 18 = .ok (.iconst 0, 1) := by decide +kernel
theorem dX5_copyFrom_19 : decode cX5_copyFrom 19 = .ok (.aload_n 0, 1) := by decide +kernel
theorem dX5_copyFrom_20 : decode cX5_copyFrom 20 = .ok (.getfield 15, 3) := by decide +kernel
theorem dX5_copyFrom_23 : decode cX5_copyFrom 23 = .ok (.iconst 0, 1) := by decide +kernel
theorem dX5_copyFrom_24 : decode cX5_copyFrom 24 = .ok (.iconst 5, 1) := by decide +kernel
theorem dX5_copyFrom_25 : decode cX5_copyFrom 25 = .ok (.invokestatic 28, 3) := by decide +kernel
theorem dX5_copyFrom_28 : decode cX5_copyFrom 28 = .ok (.aload_n 1, 1) := by decide +kernel
theorem dX5_copyFrom_29 : decode cX5_copyFrom 29 = .ok (.getfield 18, 3) := by decide +kernel
theorem dX5_copyFrom_32 : decode cX5_copyFrom 32 = .ok (.iconst 0, 1) := by decide +kernel
theorem dX5_copyFrom_33 : decode cX5_copyFrom 33 = .ok (.aload_n 0, 1) := by decide +kernel
theorem dX5_copyFrom_34 : decode cX5_copyFrom 34 = .ok (.getfield 18, 3) := by decide +kernel
theorem dX5_copyFrom_37 : decode cX5_copyFrom 37 = .ok (.iconst 0, 1) := by decide +kernel
theorem dX5_copyFrom_38 : decode cX5_copyFrom 38 = .ok (.iconst 5, 1) := by decide +kernel
theorem dX5_copyFrom_39 : decode cX5_copyFrom 39 = .ok (.invokestatic 28, 3) := by decide +kernel
theorem dX5_copyFrom_42 : decode cX5_copyFrom 42 = .ok (.aload_n 1, 1) := by decide +kernel
theorem dX5_copyFrom_43 : decode cX5_copyFrom 43 = .ok (.getfield 21, 3) := by decide +kernel
theorem dX5_copyFrom_46 : decode cX5_copyFrom 46 = .ok (.iconst 0, 1) := by decide +kernel
theorem dX5_copyFrom_47 : decode cX5_copyFrom 47 = .ok (.aload_n 0, 1) := by decide +kernel
theorem dX5_copyFrom_48 : decode cX5_copyFrom 48 = .ok (.getfield 21, 3) := by decide +kernel
theorem dX5_copyFrom_51 : decode cX5_copyFrom 51 = .ok (.iconst 0, 1) := by decide +kernel
theorem dX5_copyFrom_52 : decode cX5_copyFrom 52 = .ok (.iconst 5, 1) := by decide +kernel
theorem dX5_copyFrom_53 : decode cX5_copyFrom 53 = .ok (.invokestatic 28, 3) := by decide +kernel
theorem dX5_copyFrom_56 : decode cX5_copyFrom 56 = .ok (.aload_n 0, 1) := by decide +kernel
theorem dX5_copyFrom_57 : decode cX5_copyFrom 57 = .ok (.aload_n 1, 1) := by decide +kernel
theorem dX5_copyFrom_58 : decode cX5_copyFrom 58 = .ok (.getfield 24, 3) := by decide +kernel
theorem dX5_copyFrom_61 : decode cX5_copyFrom 61 = .ok (.putfield 24, 3) := by decide +kernel
theorem dX5_copyFrom_64 : decode cX5_copyFrom 64 = .ok (.return_, 1) := by decide +kernel
theorem dX5_has_0 : decode cX5_has 0 = .ok (.iload_n 1, 1) := by decide +kernel
theorem dX5_has_1 : decode cX5_has 1 = .ok (.ifCond .lt 15, 3) := by decide +kernel
theorem dX5_has_4 : decode cX5_has 4 = .ok (.iload_n 1, 1) := by decide +kernel
theorem dX5_has_5 : decode cX5_has 5 = .ok (.aload_n 0, 1) := by decide +kernel
theorem dX5_has_6 : decode cX5_has 6 = .ok (.getfield 24, 3) := by decide +kernel
theorem dX5_has_9 : decode cX5_has 9 = .ok (.if_icmp .ge 7, 3) := by decide +kernel
theorem dX5_has_12 : decode cX5_has 12 = .ok (.iconst 1, 1) := by decide +kernel
theorem dX5_has_13 : decode cX5_has 13 = .ok (.goto 4, 3) := by decide +kernel
theorem dX5_has_16 : decode cX5_has 16 = .ok (.iconst 0, 1) := by decide +kernel
theorem dX5_has_17 : decode cX5_has 17 = .ok (.ireturn, 1) := by decide +kernel
theorem dX5_admit_0 : decode cX5_admit 0 = .ok (.iload_n 1, 1) := by decide +kernel
theorem dX5_admit_1 : decode cX5_admit 1 = .ok (.iconst 1, 1) := by decide +kernel
theorem dX5_admit_2 : decode cX5_admit 2 = .ok (.if_icmp .lt 20, 3) := by decide +kernel
theorem dX5_admit_5 : decode cX5_admit 5 = .ok (.iload_n 1, 1) := by decide +kernel
theorem dX5_admit_6 : decode cX5_admit 6 = .ok (.bipush 99, 2) := by decide +kernel
theorem dX5_admit_8 : decode cX5_admit 8 = .ok (.if_icmp .gt 14, 3) := by decide +kernel
theorem dX5_admit_11 : decode cX5_admit 11 = .ok (.iload_n 2, 1) := by decide +kernel
theorem dX5_admit_12 : decode cX5_admit 12 = .ok (.iconst 1, 1) := by decide +kernel
theorem dX5_admit_13 : decode cX5_admit 13 = .ok (.if_icmp .lt 9, 3) := by decide +kernel
theorem dX5_admit_16 : decode cX5_admit 16 = .ok (.iload_n 2, 1) := by decide +kernel
theorem dX5_admit_17 : decode cX5_admit 17 = .ok (.bipush 99, 2) := by decide +kernel
theorem dX5_admit_19 : decode cX5_admit 19 = .ok (.if_icmp .le 6, 3) := by decide +kernel
theorem dX5_admit_22 : decode cX5_admit 22 = .ok (.bipush (-2), 2) := by decide +kernel
theorem dX5_admit_24 : decode cX5_admit 24 = .ok (.ireturn, 1) := by decide +kernel
theorem dX5_admit_25 : decode cX5_admit 25 = .ok (.iload_n 3, 1) := by decide +kernel
theorem dX5_admit_26 : decode cX5_admit 26 = .ok (.ifCond .lt 23, 3) := by decide +kernel
theorem dX5_admit_29 : decode cX5_admit 29 = .ok (.iload_n 3, 1) := by decide +kernel
theorem dX5_admit_30 : decode cX5_admit 30 = .ok (.bipush 99, 2) := by decide +kernel
theorem dX5_admit_32 : decode cX5_admit 32 = .ok (.if_icmp .gt 17, 3) := by decide +kernel
theorem dX5_admit_35 : decode cX5_admit 35 = .ok (.iload 4, 2) := by decide +kernel
theorem dX5_admit_37 : decode cX5_admit 37 = .ok (.bipush (-99), 2) := by decide +kernel
theorem dX5_admit_39 : decode cX5_admit 39 = .ok (.if_icmp .lt 10, 3) := by decide +kernel
theorem dX5_admit_42 : decode cX5_admit 42 = .ok (.iload 4, 2) := by decide +kernel
theorem dX5_admit_44 : decode cX5_admit 44 = .ok (.bipush 99, 2) := by decide +kernel
theorem dX5_admit_46 : decode cX5_admit 46 = .ok (.if_icmp .le 6, 3) := by decide +kernel
theorem dX5_admit_49 : decode cX5_admit 49 = .ok (.bipush (-2), 2) := by decide +kernel
theorem dX5_admit_51 : decode cX5_admit 51 = .ok (.ireturn, 1) := by decide +kernel
theorem dX5_admit_52 : decode cX5_admit 52 = .ok (.aload_n 0, 1) := by decide +kernel
theorem dX5_admit_53 : decode cX5_admit 53 = .ok (.getfield 24, 3) := by decide +kernel
theorem dX5_admit_56 : decode cX5_admit 56 = .ok (.iconst 5, 1) := by decide +kernel
theorem dX5_admit_57 : decode cX5_admit 57 = .ok (.if_icmp .lt 6, 3) := by decide +kernel
theorem dX5_admit_60 : decode cX5_admit 60 = .ok (.bipush (-4), 2) := by decide +kernel
theorem dX5_admit_62 : decode cX5_admit 62 = .ok (.ireturn, 1) := by decide +kernel
theorem dX5_admit_63 : decode cX5_admit 63 = .ok (.aload_n 0, 1) := by decide +kernel
theorem dX5_admit_64 : decode cX5_admit 64 = .ok (.getfield 11, 3) := by decide +kernel
theorem dX5_admit_67 : decode cX5_admit 67 = .ok (.aload_n 0, 1) := by decide +kernel
theorem dX5_admit_68 : decode cX5_admit 68 = .ok (.getfield 24, 3) := by decide +kernel
theorem dX5_admit_71 : decode cX5_admit 71 = .ok (.iload_n 1, 1) := by decide +kernel
theorem dX5_admit_72 : decode cX5_admit 72 = .ok (.iastore, 1) := by decide +kernel
theorem dX5_admit_73 : decode cX5_admit 73 = .ok (.aload_n 0, 1) := by decide +kernel
theorem dX5_admit_74 : decode cX5_admit 74 = .ok (.getfield 15, 3) := by decide +kernel
theorem dX5_admit_77 : decode cX5_admit 77 = .ok (.aload_n 0, 1) := by decide +kernel
theorem dX5_admit_78 : decode cX5_admit 78 = .ok (.getfield 24, 3) := by decide +kernel
theorem dX5_admit_81 : decode cX5_admit 81 = .ok (.iload_n 2, 1) := by decide +kernel
theorem dX5_admit_82 : decode cX5_admit 82 = .ok (.iastore, 1) := by decide +kernel
theorem dX5_admit_83 : decode cX5_admit 83 = .ok (.aload_n 0, 1) := by decide +kernel
theorem dX5_admit_84 : decode cX5_admit 84 = .ok (.getfield 18, 3) := by decide +kernel
theorem dX5_admit_87 : decode cX5_admit 87 = .ok (.aload_n 0, 1) := by decide +kernel
theorem dX5_admit_88 : decode cX5_admit 88 = .ok (.getfield 24, 3) := by decide +kernel
theorem dX5_admit_91 : decode cX5_admit 91 = .ok (.iload_n 3, 1) := by decide +kernel
theorem dX5_admit_92 : decode cX5_admit 92 = .ok (.iastore, 1) := by decide +kernel
theorem dX5_admit_93 : decode cX5_admit 93 = .ok (.aload_n 0, 1) := by decide +kernel
theorem dX5_admit_94 : decode cX5_admit 94 = .ok (.getfield 21, 3) := by decide +kernel
theorem dX5_admit_97 : decode cX5_admit 97 = .ok (.aload_n 0, 1) := by decide +kernel
theorem dX5_admit_98 : decode cX5_admit 98 = .ok (.getfield 24, 3) := by decide +kernel
theorem dX5_admit_101 : decode cX5_admit 101 = .ok (.iload 4, 2) := by decide +kernel
theorem dX5_admit_103 : decode cX5_admit 103 = .ok (.iastore, 1) := by decide +kernel
theorem dX5_admit_104 : decode cX5_admit 104 = .ok (.aload_n 0, 1) := by decide +kernel
theorem dX5_admit_105 : decode cX5_admit 105 = .ok (.dup, 1) := by decide +kernel
theorem dX5_admit_106 : decode cX5_admit 106 = .ok (.getfield 24, 3) := by decide +kernel
theorem dX5_admit_109 : decode cX5_admit 109 = .ok (.iconst 1, 1) := by decide +kernel
theorem dX5_admit_110 : decode cX5_admit 110 = .ok (.iadd, 1) := by decide +kernel
theorem dX5_admit_111 : decode cX5_admit 111 = .ok (.putfield 24, 3) := by decide +kernel
theorem dX5_admit_114 : decode cX5_admit 114 = .ok (.aload_n 0, 1) := by decide +kernel
theorem dX5_admit_115 : decode cX5_admit 115 = .ok (.getfield 24, 3) := by decide +kernel
theorem dX5_admit_118 : decode cX5_admit 118 = .ok (.iconst 1, 1) := by decide +kernel
theorem dX5_admit_119 : decode cX5_admit 119 = .ok (.isub, 1) := by decide +kernel
theorem dX5_admit_120 : decode cX5_admit 120 = .ok (.ireturn, 1) := by decide +kernel
theorem dX5_remove_0 : decode cX5_remove 0 = .ok (.aload_n 0, 1) := by decide +kernel
theorem dX5_remove_1 : decode cX5_remove 1 = .ok (.iload_n 1, 1) := by decide +kernel
theorem dX5_remove_2 : decode cX5_remove 2 = .ok (.invokevirtual 34, 3) := by decide +kernel
theorem dX5_remove_5 : decode cX5_remove 5 = .ok (.ifCond .ne 5, 3) := by decide +kernel
theorem dX5_remove_8 : decode cX5_remove 8 = .ok (.iconst (-1), 1) := by decide +kernel
theorem dX5_remove_9 : decode cX5_remove 9 = .ok (.ireturn, 1) := by decide +kernel
theorem dX5_remove_10 : decode cX5_remove 10 = .ok (.aload_n 0, 1) := by decide +kernel
theorem dX5_remove_11 : decode cX5_remove 11 = .ok (.dup, 1) := by decide +kernel
theorem dX5_remove_12 : decode cX5_remove 12 = .ok (.getfield 24, 3) := by decide +kernel
theorem dX5_remove_15 : decode cX5_remove 15 = .ok (.iconst 1, 1) := by decide +kernel
theorem dX5_remove_16 : decode cX5_remove 16 = .ok (.isub, 1) := by decide +kernel
theorem dX5_remove_17 : decode cX5_remove 17 = .ok (.putfield 24, 3) := by decide +kernel
theorem dX5_remove_20 : decode cX5_remove 20 = .ok (.iload_n 1, 1) := by decide +kernel
theorem dX5_remove_21 : decode cX5_remove 21 = .ok (.istore_n 2, 1) := by decide +kernel
theorem dX5_remove_22 : decode cX5_remove 22 = .ok (.iload_n 2, 1) := by decide +kernel
theorem dX5_remove_23 : decode cX5_remove 23 = .ok (.aload_n 0, 1) := by decide +kernel
theorem dX5_remove_24 : decode cX5_remove 24 = .ok (.getfield 24, 3) := by decide +kernel
theorem dX5_remove_27 : decode cX5_remove 27 = .ok (.if_icmp .ge 65, 3) := by decide +kernel
theorem dX5_remove_30 : decode cX5_remove 30 = .ok (.aload_n 0, 1) := by decide +kernel
theorem dX5_remove_31 : decode cX5_remove 31 = .ok (.getfield 11, 3) := by decide +kernel
theorem dX5_remove_34 : decode cX5_remove 34 = .ok (.iload_n 2, 1) := by decide +kernel
theorem dX5_remove_35 : decode cX5_remove 35 = .ok (.aload_n 0, 1) := by decide +kernel
theorem dX5_remove_36 : decode cX5_remove 36 = .ok (.getfield 11, 3) := by decide +kernel
theorem dX5_remove_39 : decode cX5_remove 39 = .ok (.iload_n 2, 1) := by decide +kernel
theorem dX5_remove_40 : decode cX5_remove 40 = .ok (.iconst 1, 1) := by decide +kernel
theorem dX5_remove_41 : decode cX5_remove 41 = .ok (.iadd, 1) := by decide +kernel
theorem dX5_remove_42 : decode cX5_remove 42 = .ok (.iaload, 1) := by decide +kernel
theorem dX5_remove_43 : decode cX5_remove 43 = .ok (.iastore, 1) := by decide +kernel
theorem dX5_remove_44 : decode cX5_remove 44 = .ok (.aload_n 0, 1) := by decide +kernel
theorem dX5_remove_45 : decode cX5_remove 45 = .ok (.getfield 15, 3) := by decide +kernel
theorem dX5_remove_48 : decode cX5_remove 48 = .ok (.iload_n 2, 1) := by decide +kernel
theorem dX5_remove_49 : decode cX5_remove 49 = .ok (.aload_n 0, 1) := by decide +kernel
theorem dX5_remove_50 : decode cX5_remove 50 = .ok (.getfield 15, 3) := by decide +kernel
theorem dX5_remove_53 : decode cX5_remove 53 = .ok (.iload_n 2, 1) := by decide +kernel
theorem dX5_remove_54 : decode cX5_remove 54 = .ok (.iconst 1, 1) := by decide +kernel
theorem dX5_remove_55 : decode cX5_remove 55 = .ok (.iadd, 1) := by decide +kernel
theorem dX5_remove_56 : decode cX5_remove 56 = .ok (.iaload, 1) := by decide +kernel
theorem dX5_remove_57 : decode cX5_remove 57 = .ok (.iastore, 1) := by decide +kernel
theorem dX5_remove_58 : decode cX5_remove 58 = .ok (.aload_n 0, 1) := by decide +kernel
theorem dX5_remove_59 : decode cX5_remove 59 = .ok (.getfield 18, 3) := by decide +kernel
theorem dX5_remove_62 : decode cX5_remove 62 = .ok (.iload_n 2, 1) := by decide +kernel
theorem dX5_remove_63 : decode cX5_remove 63 = .ok (.aload_n 0, 1) := by decide +kernel
theorem dX5_remove_64 : decode cX5_remove 64 = .ok (.getfield 18, 3) := by decide +kernel
theorem dX5_remove_67 : decode cX5_remove 67 = .ok (.iload_n 2, 1) := by decide +kernel
theorem dX5_remove_68 : decode cX5_remove 68 = .ok (.iconst 1, 1) := by decide +kernel
theorem dX5_remove_69 : decode cX5_remove 69 = .ok (.iadd, 1) := by decide +kernel
theorem dX5_remove_70 : decode cX5_remove 70 = .ok (.iaload, 1) := by decide +kernel
theorem dX5_remove_71 : decode cX5_remove 71 = .ok (.iastore, 1) := by decide +kernel
theorem dX5_remove_72 : decode cX5_remove 72 = .ok (.aload_n 0, 1) := by decide +kernel
theorem dX5_remove_73 : decode cX5_remove 73 = .ok (.getfield 21, 3) := by decide +kernel
theorem dX5_remove_76 : decode cX5_remove 76 = .ok (.iload_n 2, 1) := by decide +kernel
theorem dX5_remove_77 : decode cX5_remove 77 = .ok (.aload_n 0, 1) := by decide +kernel
theorem dX5_remove_78 : decode cX5_remove 78 = .ok (.getfield 21, 3) := by decide +kernel
theorem dX5_remove_81 : decode cX5_remove 81 = .ok (.iload_n 2, 1) := by decide +kernel
theorem dX5_remove_82 : decode cX5_remove 82 = .ok (.iconst 1, 1) := by decide +kernel
theorem dX5_remove_83 : decode cX5_remove 83 = .ok (.iadd, 1) := by decide +kernel
theorem dX5_remove_84 : decode cX5_remove 84 = .ok (.iaload, 1) := by decide +kernel
theorem dX5_remove_85 : decode cX5_remove 85 = .ok (.iastore, 1) := by decide +kernel
theorem dX5_remove_86 : decode cX5_remove 86 = .ok (.iinc 2 1, 3) := by decide +kernel
theorem dX5_remove_89 : decode cX5_remove 89 = .ok (.goto (-67), 3) := by decide +kernel
theorem dX5_remove_92 : decode cX5_remove 92 = .ok (.aload_n 0, 1) := by decide +kernel
theorem dX5_remove_93 : decode cX5_remove 93 = .ok (.getfield 24, 3) := by decide +kernel
theorem dX5_remove_96 : decode cX5_remove 96 = .ok (.ireturn, 1) := by decide +kernel
theorem dX5_acts_0 : decode cX5_acts 0 = .ok (.iload_n 2, 1) := by decide +kernel
theorem dX5_acts_1 : decode cX5_acts 1 = .ok (.aload_n 0, 1) := by decide +kernel
theorem dX5_acts_2 : decode cX5_acts 2 = .ok (.getfield 15, 3) := by decide +kernel
theorem dX5_acts_5 : decode cX5_acts 5 = .ok (.iload_n 1, 1) := by decide +kernel
theorem dX5_acts_6 : decode cX5_acts 6 = .ok (.iaload, 1) := by decide +kernel
theorem dX5_acts_7 : decode cX5_acts 7 = .ok (.imul, 1) := by decide +kernel
theorem dX5_acts_8 : decode cX5_acts 8 = .ok (.bipush 100, 2) := by decide +kernel
theorem dX5_acts_10 : decode cX5_acts 10 = .ok (.iload_n 2, 1) := by decide +kernel
theorem dX5_acts_11 : decode cX5_acts 11 = .ok (.isub, 1) := by decide +kernel
theorem dX5_acts_12 : decode cX5_acts 12 = .ok (.aload_n 0, 1) := by decide +kernel
theorem dX5_acts_13 : decode cX5_acts 13 = .ok (.getfield 11, 3) := by decide +kernel
theorem dX5_acts_16 : decode cX5_acts 16 = .ok (.iload_n 1, 1) := by decide +kernel
theorem dX5_acts_17 : decode cX5_acts 17 = .ok (.iaload, 1) := by decide +kernel
theorem dX5_acts_18 : decode cX5_acts 18 = .ok (.imul, 1) := by decide +kernel
theorem dX5_acts_19 : decode cX5_acts 19 = .ok (.if_icmp .lt 7, 3) := by decide +kernel
theorem dX5_acts_22 : decode cX5_acts 22 = .ok (.iconst 1, 1) := by decide +kernel
theorem dX5_acts_23 : decode cX5_acts 23 = .ok (.goto 4, 3) := by decide +kernel
theorem dX5_acts_26 : decode cX5_acts 26 = .ok (.iconst 0, 1) := by decide +kernel
theorem dX5_acts_27 : decode cX5_acts 27 = .ok (.ireturn, 1) := by decide +kernel
theorem dX5_worthAt_0 : decode cX5_worthAt 0 = .ok (.iconst 0, 1) := by decide +kernel
theorem dX5_worthAt_1 : decode cX5_worthAt 1 = .ok (.iload_n 2, 1) := by decide +kernel
theorem dX5_worthAt_2 : decode cX5_worthAt 2 = .ok (.aload_n 0, 1) := by decide +kernel
theorem dX5_worthAt_3 : decode cX5_worthAt 3 = .ok (.getfield 15, 3) := by decide +kernel
theorem dX5_worthAt_6 : decode cX5_worthAt 6 = .ok (.iload_n 1, 1) := by decide +kernel
theorem dX5_worthAt_7 : decode cX5_worthAt 7 = .ok (.iaload, 1) := by decide +kernel
theorem dX5_worthAt_8 : decode cX5_worthAt 8 = .ok (.imul, 1) := by decide +kernel
theorem dX5_worthAt_9 : decode cX5_worthAt 9 = .ok (.bipush 100, 2) := by decide +kernel
theorem dX5_worthAt_11 : decode cX5_worthAt 11 = .ok (.iload_n 2, 1) := by decide +kernel
theorem dX5_worthAt_12 : decode cX5_worthAt 12 = .ok (.isub, 1) := by decide +kernel
theorem dX5_worthAt_13 : decode cX5_worthAt 13 = .ok (.aload_n 0, 1) := by decide +kernel
theorem dX5_worthAt_14 : decode cX5_worthAt 14 = .ok (.getfield 11, 3) := by decide +kernel
theorem dX5_worthAt_17 : decode cX5_worthAt 17 = .ok (.iload_n 1, 1) := by decide +kernel
theorem dX5_worthAt_18 : decode cX5_worthAt 18 = .ok (.iaload, 1) := by decide +kernel
theorem dX5_worthAt_19 : decode cX5_worthAt 19 = .ok (.imul, 1) := by decide +kernel
theorem dX5_worthAt_20 : decode cX5_worthAt 20 = .ok (.isub, 1) := by decide +kernel
theorem dX5_worthAt_21 : decode cX5_worthAt 21 = .ok (.invokestatic 38, 3) := by decide +kernel
theorem dX5_worthAt_24 : decode cX5_worthAt 24 = .ok (.ireturn, 1) := by decide +kernel
theorem dX5_leastActing_0 : decode cX5_leastActing 0 = .ok (.iconst 0, 1) := by decide +kernel
theorem dX5_leastActing_1 : decode cX5_leastActing 1 = .ok (.istore_n 2, 1) := by decide +kernel
theorem dX5_leastActing_2 : decode cX5_leastActing 2 = .ok (.iload_n 2, 1) := by decide +kernel
theorem dX5_leastActing_3 : decode cX5_leastActing 3 = .ok (.bipush 100, 2) := by decide +kernel
theorem dX5_leastActing_5 : decode cX5_leastActing 5 = .ok (.if_icmp .ge 18, 3) := by decide +kernel
theorem dX5_leastActing_8 : decode cX5_leastActing 8 = .ok (.aload_n 0, 1) := by decide +kernel
theorem dX5_leastActing_9 : decode cX5_leastActing 9 = .ok (.iload_n 1, 1) := by decide +kernel
theorem dX5_leastActing_10 : decode cX5_leastActing 10 = .ok (.iload_n 2, 1) := by decide +kernel
theorem dX5_leastActing_11 : decode cX5_leastActing 11 = .ok (.invokevirtual 44, 3) := by decide +kernel
theorem dX5_leastActing_14 : decode cX5_leastActing 14 = .ok (.ifCond .ne 9, 3) := by decide +kernel
theorem dX5_leastActing_17 : decode cX5_leastActing 17 = .ok (.iinc 2 1, 3) := by decide +kernel
theorem dX5_leastActing_20 : decode cX5_leastActing 20 = .ok (.goto (-18), 3) := by decide +kernel
theorem dX5_leastActing_23 : decode cX5_leastActing 23 = .ok (.iload_n 2, 1) := by decide +kernel
theorem dX5_leastActing_24 : decode cX5_leastActing 24 = .ok (.ireturn, 1) := by decide +kernel
theorem dX5_actingAt_0 : decode cX5_actingAt 0 = .ok (.iconst 0, 1) := by decide +kernel
theorem dX5_actingAt_1 : decode cX5_actingAt 1 = .ok (.istore_n 2, 1) := by decide +kernel
theorem dX5_actingAt_2 : decode cX5_actingAt 2 = .ok (.iconst 0, 1) := by decide +kernel
theorem dX5_actingAt_3 : decode cX5_actingAt 3 = .ok (.istore_n 3, 1) := by decide +kernel
theorem dX5_actingAt_4 : decode cX5_actingAt 4 = .ok (.iload_n 3, 1) := by decide +kernel
theorem dX5_actingAt_5 : decode cX5_actingAt 5 = .ok (.aload_n 0, 1) := by decide +kernel
theorem dX5_actingAt_6 : decode cX5_actingAt 6 = .ok (.getfield 24, 3) := by decide +kernel
theorem dX5_actingAt_9 : decode cX5_actingAt 9 = .ok (.if_icmp .ge 24, 3) := by decide +kernel
theorem dX5_actingAt_12 : decode cX5_actingAt 12 = .ok (.aload_n 0, 1) := by decide +kernel
theorem dX5_actingAt_13 : decode cX5_actingAt 13 = .ok (.iload_n 3, 1) := by decide +kernel
theorem dX5_actingAt_14 : decode cX5_actingAt 14 = .ok (.iload_n 1, 1) := by decide +kernel
theorem dX5_actingAt_15 : decode cX5_actingAt 15 = .ok (.invokevirtual 44, 3) := by decide +kernel
theorem dX5_actingAt_18 : decode cX5_actingAt 18 = .ok (.ifCond .eq 9, 3) := by decide +kernel
theorem dX5_actingAt_21 : decode cX5_actingAt 21 = .ok (.iload_n 2, 1) := by decide +kernel
theorem dX5_actingAt_22 : decode cX5_actingAt 22 = .ok (.iconst 1, 1) := by decide +kernel
theorem dX5_actingAt_23 : decode cX5_actingAt 23 = .ok (.iload_n 3, 1) := by decide +kernel
theorem dX5_actingAt_24 : decode cX5_actingAt 24 = .ok (.ishl, 1) := by decide +kernel
theorem dX5_actingAt_25 : decode cX5_actingAt 25 = .ok (.ior, 1) := by decide +kernel
theorem dX5_actingAt_26 : decode cX5_actingAt 26 = .ok (.istore_n 2, 1) := by decide +kernel
theorem dX5_actingAt_27 : decode cX5_actingAt 27 = .ok (.iinc 3 1, 3) := by decide +kernel
theorem dX5_actingAt_30 : decode cX5_actingAt 30 = .ok (.goto (-26), 3) := by decide +kernel
theorem dX5_actingAt_33 : decode cX5_actingAt 33 = .ok (.iload_n 2, 1) := by decide +kernel
theorem dX5_actingAt_34 : decode cX5_actingAt 34 = .ok (.ireturn, 1) := by decide +kernel
theorem dX5_valueAt_0 : decode cX5_valueAt 0 = .ok (.iconst 0, 1) := by decide +kernel
theorem dX5_valueAt_1 : decode cX5_valueAt 1 = .ok (.istore_n 2, 1) := by decide +kernel
theorem dX5_valueAt_2 : decode cX5_valueAt 2 = .ok (.iconst 0, 1) := by decide +kernel
theorem dX5_valueAt_3 : decode cX5_valueAt 3 = .ok (.istore_n 3, 1) := by decide +kernel
theorem dX5_valueAt_4 : decode cX5_valueAt 4 = .ok (.iconst 1, 1) := by decide +kernel
theorem dX5_valueAt_5 : decode cX5_valueAt 5 = .ok (.istore 4, 2) := by decide +kernel
theorem dX5_valueAt_7 : decode cX5_valueAt 7 = .ok (.iconst 0, 1) := by decide +kernel
theorem dX5_valueAt_8 : decode cX5_valueAt 8 = .ok (.istore 5, 2) := by decide +kernel
theorem dX5_valueAt_10 : decode cX5_valueAt 10 = .ok (.iload 5, 2) := by decide +kernel
theorem dX5_valueAt_12 : decode cX5_valueAt 12 = .ok (.aload_n 0, 1) := by decide +kernel
theorem dX5_valueAt_13 : decode cX5_valueAt 13 = .ok (.getfield 24, 3) := by decide +kernel
theorem dX5_valueAt_16 : decode cX5_valueAt 16 = .ok (.if_icmp .ge 45, 3) := by decide +kernel
theorem dX5_valueAt_19 : decode cX5_valueAt 19 = .ok (.iload_n 3, 1) := by decide +kernel
theorem dX5_valueAt_20 : decode cX5_valueAt 20 = .ok (.aload_n 0, 1) := by decide +kernel
theorem dX5_valueAt_21 : decode cX5_valueAt 21 = .ok (.getfield 21, 3) := by decide +kernel
theorem dX5_valueAt_24 : decode cX5_valueAt 24 = .ok (.iload 5, 2) := by decide +kernel
theorem dX5_valueAt_26 : decode cX5_valueAt 26 = .ok (.iaload, 1) := by decide +kernel
theorem dX5_valueAt_27 : decode cX5_valueAt 27 = .ok (.iadd, 1) := by decide +kernel
theorem dX5_valueAt_28 : decode cX5_valueAt 28 = .ok (.istore_n 3, 1) := by decide +kernel
theorem dX5_valueAt_29 : decode cX5_valueAt 29 = .ok (.aload_n 0, 1) := by decide +kernel
theorem dX5_valueAt_30 : decode cX5_valueAt 30 = .ok (.iload 5, 2) := by decide +kernel
theorem dX5_valueAt_32 : decode cX5_valueAt 32 = .ok (.iload_n 1, 1) := by decide +kernel
theorem dX5_valueAt_33 : decode cX5_valueAt 33 = .ok (.invokevirtual 44, 3) := by decide +kernel
theorem dX5_valueAt_36 : decode cX5_valueAt 36 = .ok (.ifCond .eq 16, 3) := by decide +kernel
theorem dX5_valueAt_39 : decode cX5_valueAt 39 = .ok (.iload_n 2, 1) := by decide +kernel
theorem dX5_valueAt_40 : decode cX5_valueAt 40 = .ok (.aload_n 0, 1) := by decide +kernel
theorem dX5_valueAt_41 : decode cX5_valueAt 41 = .ok (.getfield 18, 3) := by decide +kernel
theorem dX5_valueAt_44 : decode cX5_valueAt 44 = .ok (.iload 5, 2) := by decide +kernel
theorem dX5_valueAt_46 : decode cX5_valueAt 46 = .ok (.iaload, 1) := by decide +kernel
theorem dX5_valueAt_47 : decode cX5_valueAt 47 = .ok (.iadd, 1) := by decide +kernel
theorem dX5_valueAt_48 : decode cX5_valueAt 48 = .ok (.istore_n 2, 1) := by decide +kernel
theorem dX5_valueAt_49 : decode cX5_valueAt 49 = .ok (.goto 6, 3) := by decide +kernel
theorem dX5_valueAt_52 : decode cX5_valueAt 52 = .ok (.iconst 0, 1) := by decide +kernel
theorem dX5_valueAt_53 : decode cX5_valueAt 53 = .ok (.istore 4, 2) := by decide +kernel
theorem dX5_valueAt_55 : decode cX5_valueAt 55 = .ok (.iinc 5 1, 3) := by decide +kernel
theorem dX5_valueAt_58 : decode cX5_valueAt 58 = .ok (.goto (-48), 3) := by decide +kernel
theorem dX5_valueAt_61 : decode cX5_valueAt 61 = .ok (.iload 4, 2) := by decide +kernel
theorem dX5_valueAt_63 : decode cX5_valueAt 63 = .ok (.ifCond .eq 9, 3) := by decide +kernel
theorem dX5_valueAt_66 : decode cX5_valueAt 66 = .ok (.iload_n 2, 1) := by decide +kernel
theorem dX5_valueAt_67 : decode cX5_valueAt 67 = .ok (.iload_n 3, 1) := by decide +kernel
theorem dX5_valueAt_68 : decode cX5_valueAt 68 = .ok (.iadd, 1) := by decide +kernel
theorem dX5_valueAt_69 : decode cX5_valueAt 69 = .ok (.goto 4, 3) := by decide +kernel
theorem dX5_valueAt_72 : decode cX5_valueAt 72 = .ok (.iload_n 2, 1) := by decide +kernel
theorem dX5_valueAt_73 : decode cX5_valueAt 73 = .ok (.ireturn, 1) := by decide +kernel
theorem dX6_init_0 : decode cX6_init 0 = .ok (.aload_n 0, 1) := by decide +kernel
theorem dX6_init_1 : decode cX6_init 1 = .ok (.invokespecial 1, 3) := by decide +kernel
theorem dX6_init_4 : decode cX6_init 4 = .ok (.aload_n 0, 1) := by decide +kernel
theorem dX6_init_5 : decode cX6_init 5 = .ok (.bipush 6, 2) := by decide +kernel
theorem dX6_init_7 : decode cX6_init 7 = .ok (.newarray .int, 2) := by decide +kernel
theorem dX6_init_9 : decode cX6_init 9 = .ok (.putfield 9, 3) := by decide +kernel
theorem dX6_init_12 : decode cX6_init 12 = .ok (.aload_n 0, 1) := by decide +kernel
theorem dX6_init_13 : decode cX6_init 13 = .ok (.bipush 6, 2) := by decide +kernel
theorem dX6_init_15 : decode cX6_init 15 = .ok (.newarray .int, 2) := by decide +kernel
theorem dX6_init_17 : decode cX6_init 17 = .ok (.putfield 13, 3) := by decide +kernel
theorem dX6_init_20 : decode cX6_init 20 = .ok (.aload_n 0, 1) := by decide +kernel
theorem dX6_init_21 : decode cX6_init 21 = .ok (.iconst 0, 1) := by decide +kernel
theorem dX6_init_22 : decode cX6_init 22 = .ok (.putfield 16, 3) := by decide +kernel
theorem dX6_init_25 : decode cX6_init 25 = .ok (.return_, 1) := by decide +kernel
theorem dX6_copyFrom_0 : decode cX6_copyFrom 0 = .ok (.aload_n 1, 1) := by decide +kernel
theorem dX6_copyFrom_1 : decode cX6_copyFrom 1 = .ok (.getfield 9, 3) := by decide +kernel
theorem dX6_copyFrom_4 : decode cX6_copyFrom 4 = .ok (.iconst 0, 1) := by decide +kernel
theorem dX6_copyFrom_5 : decode cX6_copyFrom 5 = .ok (.aload_n 0, 1) := by decide +kernel
theorem dX6_copyFrom_6 : decode cX6_copyFrom 6 = .ok (.getfield 9, 3) := by decide +kernel
theorem dX6_copyFrom_9 : decode cX6_copyFrom 9 = .ok (.iconst 0, 1) := by decide +kernel
theorem dX6_copyFrom_10 : decode cX6_copyFrom 10 = .ok (.bipush 6, 2) := by decide +kernel
theorem dX6_copyFrom_12 : decode cX6_copyFrom 12 = .ok (.invokestatic 20, 3) := by decide +kernel
theorem dX6_copyFrom_15 : decode cX6_copyFrom 15 = .ok (.aload_n 1, 1) := by decide +kernel
theorem dX6_copyFrom_16 : decode cX6_copyFrom 16 = .ok (.getfield 13, 3) := by decide +kernel
theorem dX6_copyFrom_19 : decode cX6_copyFrom 19 = .ok (.iconst 0, 1) := by decide +kernel
theorem dX6_copyFrom_20 : decode cX6_copyFrom 20 = .ok (.aload_n 0, 1) := by decide +kernel
theorem dX6_copyFrom_21 : decode cX6_copyFrom 21 = .ok (.getfield 13, 3) := by decide +kernel
theorem dX6_copyFrom_24 : decode cX6_copyFrom 24 = .ok (.iconst 0, 1) := by decide +kernel
theorem dX6_copyFrom_25 : decode cX6_copyFrom 25 = .ok (.bipush 6, 2) := by decide +kernel
theorem dX6_copyFrom_27 : decode cX6_copyFrom 27 = .ok (.invokestatic 20, 3) := by decide +kernel
theorem dX6_copyFrom_30 : decode cX6_copyFrom 30 = .ok (.aload_n 0, 1) := by decide +kernel
theorem dX6_copyFrom_31 : decode cX6_copyFrom 31 = .ok (.aload_n 1, 1) := by decide +kernel
theorem dX6_copyFrom_32 : decode cX6_copyFrom 32 = .ok (.getfield 16, 3) := by decide +kernel
theorem dX6_copyFrom_35 : decode cX6_copyFrom 35 = .ok (.putfield 16, 3) := by decide +kernel
theorem dX6_copyFrom_38 : decode cX6_copyFrom 38 = .ok (.return_, 1) := by decide +kernel
theorem dX6_has_0 : decode cX6_has 0 = .ok (.iload_n 1, 1) := by decide +kernel
theorem dX6_has_1 : decode cX6_has 1 = .ok (.ifCond .lt 15, 3) := by decide +kernel
theorem dX6_has_4 : decode cX6_has 4 = .ok (.iload_n 1, 1) := by decide +kernel
theorem dX6_has_5 : decode cX6_has 5 = .ok (.aload_n 0, 1) := by decide +kernel
theorem dX6_has_6 : decode cX6_has 6 = .ok (.getfield 16, 3) := by decide +kernel
theorem dX6_has_9 : decode cX6_has 9 = .ok (.if_icmp .ge 7, 3) := by decide +kernel
theorem dX6_has_12 : decode cX6_has 12 = .ok (.iconst 1, 1) := by decide +kernel
theorem dX6_has_13 : decode cX6_has 13 = .ok (.goto 4, 3) := by decide +kernel
theorem dX6_has_16 : decode cX6_has 16 = .ok (.iconst 0, 1) := by decide +kernel
theorem dX6_has_17 : decode cX6_has 17 = .ok (.ireturn, 1) := by decide +kernel
theorem dX6_becomeOne_0 : decode cX6_becomeOne 0 = .ok (.aload_n 0, 1) := by decide +kernel
theorem dX6_becomeOne_1 : decode cX6_becomeOne 1 = .ok (.iconst 0, 1) := by decide +kernel
theorem dX6_becomeOne_2 : decode cX6_becomeOne 2 = .ok (.putfield 16, 3) := by decide +kernel
theorem dX6_becomeOne_5 : decode cX6_becomeOne 5 = .ok (.aload_n 0, 1) := by decide +kernel
theorem dX6_becomeOne_6 : decode cX6_becomeOne 6 = .ok (.iload_n 1, 1) := by decide +kernel
theorem dX6_becomeOne_7 : decode cX6_becomeOne 7 = .ok (.iconst 1, 1) := by decide +kernel
theorem dX6_becomeOne_8 : decode cX6_becomeOne 8 = .ok (.invokevirtual 26, 3) := by decide +kernel
theorem dX6_becomeOne_11 : decode cX6_becomeOne 11 = .ok (.return_, 1) := by decide +kernel
theorem dX6_append_0 : decode cX6_append 0 = .ok (.aload_n 0, 1) := by decide +kernel
theorem dX6_append_1 : decode cX6_append 1 = .ok (.getfield 16, 3) := by decide +kernel
theorem dX6_append_4 : decode cX6_append 4 = .ok (.bipush 6, 2) := by decide +kernel
theorem dX6_append_6 : decode cX6_append 6 = .ok (.if_icmp .ge 33, 3) := by decide +kernel
theorem dX6_append_9 : decode cX6_append 9 = .ok (.aload_n 0, 1) := by decide +kernel
theorem dX6_append_10 : decode cX6_append 10 = .ok (.getfield 9, 3) := by decide +kernel
theorem dX6_append_13 : decode cX6_append 13 = .ok (.aload_n 0, 1) := by decide +kernel
theorem dX6_append_14 : decode cX6_append 14 = .ok (.getfield 16, 3) := by decide +kernel
theorem dX6_append_17 : decode cX6_append 17 = .ok (.iload_n 2, 1) := by decide +kernel
theorem dX6_append_18 : decode cX6_append 18 = .ok (.iastore, 1) := by decide +kernel
theorem dX6_append_19 : decode cX6_append 19 = .ok (.aload_n 0, 1) := by decide +kernel
theorem dX6_append_20 : decode cX6_append 20 = .ok (.getfield 13, 3) := by decide +kernel
theorem dX6_append_23 : decode cX6_append 23 = .ok (.aload_n 0, 1) := by decide +kernel
theorem dX6_append_24 : decode cX6_append 24 = .ok (.getfield 16, 3) := by decide +kernel
theorem dX6_append_27 : decode cX6_append 27 = .ok (.iload_n 1, 1) := by decide +kernel
theorem dX6_append_28 : decode cX6_append 28 = .ok (.iastore, 1) := by decide +kernel
theorem dX6_append_29 : decode cX6_append 29 = .ok (.aload_n 0, 1) := by decide +kernel
theorem dX6_append_30 : decode cX6_append 30 = .ok (.dup, 1) := by decide +kernel
theorem dX6_append_31 : decode cX6_append 31 = .ok (.getfield 16, 3) := by decide +kernel
theorem dX6_append_34 : decode cX6_append 34 = .ok (.iconst 1, 1) := by decide +kernel
theorem dX6_append_35 : decode cX6_append 35 = .ok (.iadd, 1) := by decide +kernel
theorem dX6_append_36 : decode cX6_append 36 = .ok (.putfield 16, 3) := by decide +kernel
theorem dX6_append_39 : decode cX6_append 39 = .ok (.return_, 1) := by decide +kernel
theorem dX6_weightSum_0 : decode cX6_weightSum 0 = .ok (.iconst 0, 1) := by decide +kernel
theorem dX6_weightSum_1 : decode cX6_weightSum 1 = .ok (.istore_n 1, 1) := by decide +kernel
theorem dX6_weightSum_2 : decode cX6_weightSum 2 = .ok (.iconst 0, 1) := by decide +kernel
theorem dX6_weightSum_3 : decode cX6_weightSum 3 = .ok (.istore_n 2, 1) := by decide +kernel
theorem dX6_weightSum_4 : decode cX6_weightSum 4 = .ok (.iload_n 2, 1) := by decide +kernel
theorem dX6_weightSum_5 : decode cX6_weightSum 5 = .ok (.aload_n 0, 1) := by decide +kernel
theorem dX6_weightSum_6 : decode cX6_weightSum 6 = .ok (.getfield 16, 3) := by decide +kernel
theorem dX6_weightSum_9 : decode cX6_weightSum 9 = .ok (.if_icmp .ge 18, 3) := by decide +kernel
theorem dX6_weightSum_12 : decode cX6_weightSum 12 = .ok (.iload_n 1, 1) := by decide +kernel
theorem dX6_weightSum_13 : decode cX6_weightSum 13 = .ok (.aload_n 0, 1) := by decide +kernel
theorem dX6_weightSum_14 : decode cX6_weightSum 14 = .ok (.getfield 9, 3) := by decide +kernel
theorem dX6_weightSum_17 : decode cX6_weightSum 17 = .ok (.iload_n 2, 1) := by decide +kernel
theorem dX6_weightSum_18 : decode cX6_weightSum 18 = .ok (.iaload, 1) := by decide +kernel
theorem dX6_weightSum_19 : decode cX6_weightSum 19 = .ok (.iadd, 1) := by decide +kernel
theorem dX6_weightSum_20 : decode cX6_weightSum 20 = .ok (.istore_n 1, 1) := by decide +kernel
theorem dX6_weightSum_21 : decode cX6_weightSum 21 = .ok (.iinc 2 1, 3) := by decide +kernel
theorem dX6_weightSum_24 : decode cX6_weightSum 24 = .ok (.goto (-20), 3) := by decide +kernel
theorem dX6_weightSum_27 : decode cX6_weightSum 27 = .ok (.iload_n 1, 1) := by decide +kernel
theorem dX6_weightSum_28 : decode cX6_weightSum 28 = .ok (.ireturn, 1) := by decide +kernel
theorem dX7_init_0 : decode cX7_init 0 = .ok (.aload_n 0, 1) := by decide +kernel
theorem dX7_init_1 : decode cX7_init 1 = .ok (.invokespecial 3, 3) := by decide +kernel
theorem dX7_init_4 : decode cX7_init 4 = .ok (.aload_n 0, 1) := by decide +kernel
theorem dX7_init_5 : decode cX7_init 5 = .ok (.new 9, 3) := by decide +kernel
theorem dX7_init_8 : decode cX7_init 8 = .ok (.dup, 1) := by decide +kernel
theorem dX7_init_9 : decode cX7_init 9 = .ok (.invokespecial 11, 3) := by decide +kernel
theorem dX7_init_12 : decode cX7_init 12 = .ok (.putfield 12, 3) := by decide +kernel
theorem dX7_init_15 : decode cX7_init 15 = .ok (.aload_n 0, 1) := by decide +kernel
theorem dX7_init_16 : decode cX7_init 16 = .ok (.new 18, 3) := by decide +kernel
theorem dX7_init_19 : decode cX7_init 19 = .ok (.dup, 1) := by decide +kernel
theorem dX7_init_20 : decode cX7_init 20 = .ok (.invokespecial 20, 3) := by decide +kernel
theorem dX7_init_23 : decode cX7_init 23 = .ok (.putfield 21, 3) := by decide +kernel
theorem dX7_init_26 : decode cX7_init 26 = .ok (.aload_n 0, 1) := by decide +kernel
theorem dX7_init_27 : decode cX7_init 27 = .ok (.bipush 30, 2) := by decide +kernel
theorem dX7_init_29 : decode cX7_init 29 = .ok (.putfield 25, 3) := by decide +kernel
theorem dX7_init_32 : decode cX7_init 32 = .ok (.aload_n 0, 1) := by decide +kernel
theorem dX7_init_33 : decode cX7_init 33 = .ok (.getfield 21, 3) := by decide +kernel
theorem dX7_init_36 : decode cX7_init 36 = .ok (.bipush 30, 2) := by decide +kernel
theorem dX7_init_38 : decode cX7_init 38 = .ok (.invokevirtual 29, 3) := by decide +kernel
theorem dX7_init_41 : decode cX7_init 41 = .ok (.return_, 1) := by decide +kernel
theorem dX7_copyFrom_0 : decode cX7_copyFrom 0 = .ok (.aload_n 0, 1) := by decide +kernel
theorem dX7_copyFrom_1 : decode cX7_copyFrom 1 = .ok (.getfield 12, 3) := by decide +kernel
theorem dX7_copyFrom_4 : decode cX7_copyFrom 4 = .ok (.aload_n 1, 1) := by decide +kernel
theorem dX7_copyFrom_5 : decode cX7_copyFrom 5 = .ok (.getfield 12, 3) := by decide +kernel
theorem dX7_copyFrom_8 : decode cX7_copyFrom 8 = .ok (.invokevirtual 33, 3) := by decide +kernel
theorem dX7_copyFrom_11 : decode cX7_copyFrom 11 = .ok (.aload_n 0, 1) := by decide +kernel
theorem dX7_copyFrom_12 : decode cX7_copyFrom 12 = .ok (.getfield 21, 3) := by decide +kernel
theorem dX7_copyFrom_15 : decode cX7_copyFrom 15 = .ok (.aload_n 1, 1) := by decide +kernel
theorem dX7_copyFrom_16 : decode cX7_copyFrom 16 = .ok (.getfield 21, 3) := by decide +kernel
theorem dX7_copyFrom_19 : decode cX7_copyFrom 19 = .ok (.invokevirtual 37, 3) := by decide +kernel
theorem dX7_copyFrom_22 : decode cX7_copyFrom 22 = .ok (.aload_n 0, 1) := by decide +kernel
theorem dX7_copyFrom_23 : decode cX7_copyFrom 23 = .ok (.aload_n 1, 1) := by decide +kernel
theorem dX7_copyFrom_24 : decode cX7_copyFrom 24 = .ok (.getfield 25, 3) := by decide +kernel
theorem dX7_copyFrom_27 : decode cX7_copyFrom 27 = .ok (.putfield 25, 3) := by decide +kernel
theorem dX7_copyFrom_30 : decode cX7_copyFrom 30 = .ok (.return_, 1) := by decide +kernel
theorem dX7_movePrior_0 : decode cX7_movePrior 0 = .ok (.iload_n 1, 1) := by decide +kernel
theorem dX7_movePrior_1 : decode cX7_movePrior 1 = .ok (.iconst 1, 1) := by decide +kernel
theorem dX7_movePrior_2 : decode cX7_movePrior 2 = .ok (.if_icmp .lt 9, 3) := by decide +kernel
theorem dX7_movePrior_5 : decode cX7_movePrior 5 = .ok (.iload_n 1, 1) := by decide +kernel
theorem dX7_movePrior_6 : decode cX7_movePrior 6 = .ok (.bipush 100, 2) := by decide +kernel
theorem dX7_movePrior_8 : decode cX7_movePrior 8 = .ok (.if_icmp .lt 6, 3) := by decide +kernel
theorem dX7_movePrior_11 : decode cX7_movePrior 11 = .ok (.bipush (-2), 2) := by decide +kernel
theorem dX7_movePrior_13 : decode cX7_movePrior 13 = .ok (.ireturn, 1) := by decide +kernel
theorem dX7_movePrior_14 : decode cX7_movePrior 14 = .ok (.aload_n 0, 1) := by decide +kernel
theorem dX7_movePrior_15 : decode cX7_movePrior 15 = .ok (.getfield 25, 3) := by decide +kernel
theorem dX7_movePrior_18 : decode cX7_movePrior 18 = .ok (.istore_n 2, 1) := by decide +kernel
theorem dX7_movePrior_19 : decode cX7_movePrior 19 = .ok (.aload_n 0, 1) := by decide +kernel
theorem dX7_movePrior_20 : decode cX7_movePrior 20 = .ok (.iload_n 1, 1) := by decide +kernel
theorem dX7_movePrior_21 : decode cX7_movePrior 21 = .ok (.putfield 25, 3) := by decide +kernel
theorem dX7_movePrior_24 : decode cX7_movePrior 24 = .ok (.aload_n 0, 1) := by decide +kernel
theorem dX7_movePrior_25 : decode cX7_movePrior 25 = .ok (.getfield 21, 3) := by decide +kernel
theorem dX7_movePrior_28 : decode cX7_movePrior 28 = .ok (.iload_n 1, 1) := by decide +kernel
theorem dX7_movePrior_29 : decode cX7_movePrior 29 = .ok (.invokevirtual 29, 3) := by decide +kernel
theorem dX7_movePrior_32 : decode cX7_movePrior 32 = .ok (.iload_n 2, 1) := by decide +kernel
theorem dX7_movePrior_33 : decode cX7_movePrior 33 = .ok (.ireturn, 1) := by decide +kernel
theorem dX7_tellMeanValue_0 : decode cX7_tellMeanValue 0 = .ok (.iconst 0, 1) := by decide +kernel
theorem dX7_tellMeanValue_1 : decode cX7_tellMeanValue 1 = .ok (.istore_n 2, 1) := by decide +kernel
theorem dX7_tellMeanValue_2 : decode cX7_tellMeanValue 2 = .ok (.iconst 0, 1) := by decide +kernel
theorem dX7_tellMeanValue_3 : decode cX7_tellMeanValue 3 = .ok (.istore_n 3, 1) := by decide +kernel
theorem dX7_tellMeanValue_4 : decode cX7_tellMeanValue 4 = .ok (.iload_n 3, 1) := by decide +kernel
theorem dX7_tellMeanValue_5 : decode cX7_tellMeanValue 5 = .ok (.aload_n 0, 1) := by decide +kernel
theorem dX7_tellMeanValue_6 : decode cX7_tellMeanValue 6 = .ok (.getfield 21, 3) := by decide +kernel
theorem dX7_tellMeanValue_9 : decode cX7_tellMeanValue 9 = .ok (.getfield 40, 3) := by decide +kernel
theorem dX7_tellMeanValue_12 : decode cX7_tellMeanValue 12 = .ok (.if_icmp .ge 38, 3) := by decide +kernel
theorem dX7_tellMeanValue_15 : decode cX7_tellMeanValue 15 = .ok (.iload_n 2, 1) := by decide +kernel
theorem dX7_tellMeanValue_16 : decode cX7_tellMeanValue 16 = .ok (.aload_n 0, 1) := by decide +kernel
theorem dX7_tellMeanValue_17 : decode cX7_tellMeanValue 17 = .ok (.getfield 21, 3) := by decide +kernel
theorem dX7_tellMeanValue_20 : decode cX7_tellMeanValue 20 = .ok (.getfield 43, 3) := by decide +kernel
theorem dX7_tellMeanValue_23 : decode cX7_tellMeanValue 23 = .ok (.iload_n 3, 1) := by decide +kernel
theorem dX7_tellMeanValue_24 : decode cX7_tellMeanValue 24 = .ok (.iaload, 1) := by decide +kernel
theorem dX7_tellMeanValue_25 : decode cX7_tellMeanValue 25 = .ok (.aload_n 0, 1) := by decide +kernel
theorem dX7_tellMeanValue_26 : decode cX7_tellMeanValue 26 = .ok (.getfield 12, 3) := by decide +kernel
theorem dX7_tellMeanValue_29 : decode cX7_tellMeanValue 29 = .ok (.aload_n 0, 1) := by decide +kernel
theorem dX7_tellMeanValue_30 : decode cX7_tellMeanValue 30 = .ok (.getfield 21, 3) := by decide +kernel
theorem dX7_tellMeanValue_33 : decode cX7_tellMeanValue 33 = .ok (.getfield 47, 3) := by decide +kernel
theorem dX7_tellMeanValue_36 : decode cX7_tellMeanValue 36 = .ok (.iload_n 3, 1) := by decide +kernel
theorem dX7_tellMeanValue_37 : decode cX7_tellMeanValue 37 = .ok (.iaload, 1) := by decide +kernel
theorem dX7_tellMeanValue_38 : decode cX7_tellMeanValue 38 = .ok (.invokevirtual 50, 3) := by decide +kernel
theorem dX7_tellMeanValue_41 : decode cX7_tellMeanValue 41 = .ok (.imul, 1) := by decide +kernel
theorem dX7_tellMeanValue_42 : decode cX7_tellMeanValue 42 = .ok (.iadd, 1) := by decide +kernel
theorem dX7_tellMeanValue_43 : decode cX7_tellMeanValue 43 = .ok (.istore_n 2, 1) := by decide +kernel
theorem dX7_tellMeanValue_44 : decode cX7_tellMeanValue 44 = .ok (.iinc 3 1, 3) := by decide +kernel
theorem dX7_tellMeanValue_47 : decode cX7_tellMeanValue 47 = .ok (.goto (-43), 3) := by decide +kernel
theorem dX7_tellMeanValue_50 : decode cX7_tellMeanValue 50 = .ok (.aload_n 1, 1) := by decide +kernel
theorem dX7_tellMeanValue_51 : decode cX7_tellMeanValue 51 = .ok (.iload_n 2, 1) := by decide +kernel
theorem dX7_tellMeanValue_52 : decode cX7_tellMeanValue 52 = .ok (.aload_n 0, 1) := by decide +kernel
theorem dX7_tellMeanValue_53 : decode cX7_tellMeanValue 53 = .ok (.getfield 21, 3) := by decide +kernel
theorem dX7_tellMeanValue_56 : decode cX7_tellMeanValue 56 = .ok (.invokevirtual 54, 3) := by decide +kernel
theorem dX7_tellMeanValue_59 : decode cX7_tellMeanValue 59 = .ok (.invokevirtual 58, 3) := by decide +kernel
theorem dX7_tellMeanValue_62 : decode cX7_tellMeanValue 62 = .ok (.return_, 1) := by decide +kernel
theorem dX7_tellMeanWorth_0 : decode cX7_tellMeanWorth 0 = .ok (.iconst 0, 1) := by decide +kernel
theorem dX7_tellMeanWorth_1 : decode cX7_tellMeanWorth 1 = .ok (.istore_n 3, 1) := by decide +kernel
theorem dX7_tellMeanWorth_2 : decode cX7_tellMeanWorth 2 = .ok (.iconst 0, 1) := by decide +kernel
theorem dX7_tellMeanWorth_3 : decode cX7_tellMeanWorth 3 = .ok (.istore 4, 2) := by decide +kernel
theorem dX7_tellMeanWorth_5 : decode cX7_tellMeanWorth 5 = .ok (.iload 4, 2) := by decide +kernel
theorem dX7_tellMeanWorth_7 : decode cX7_tellMeanWorth 7 = .ok (.aload_n 0, 1) := by decide +kernel
theorem dX7_tellMeanWorth_8 : decode cX7_tellMeanWorth 8 = .ok (.getfield 21, 3) := by decide +kernel
theorem dX7_tellMeanWorth_11 : decode cX7_tellMeanWorth 11 = .ok (.getfield 40, 3) := by decide +kernel
theorem dX7_tellMeanWorth_14 : decode cX7_tellMeanWorth 14 = .ok (.if_icmp .ge 41, 3) := by decide +kernel
theorem dX7_tellMeanWorth_17 : decode cX7_tellMeanWorth 17 = .ok (.iload_n 3, 1) := by decide +kernel
theorem dX7_tellMeanWorth_18 : decode cX7_tellMeanWorth 18 = .ok (.aload_n 0, 1) := by decide +kernel
theorem dX7_tellMeanWorth_19 : decode cX7_tellMeanWorth 19 = .ok (.getfield 21, 3) := by decide +kernel
theorem dX7_tellMeanWorth_22 : decode cX7_tellMeanWorth 22 = .ok (.getfield 43, 3) := by decide +kernel
theorem dX7_tellMeanWorth_25 : decode cX7_tellMeanWorth 25 = .ok (.iload 4, 2) := by decide +kernel
theorem dX7_tellMeanWorth_27 : decode cX7_tellMeanWorth 27 = .ok (.iaload, 1) := by decide +kernel
theorem dX7_tellMeanWorth_28 : decode cX7_tellMeanWorth 28 = .ok (.aload_n 0, 1) := by decide +kernel
theorem dX7_tellMeanWorth_29 : decode cX7_tellMeanWorth 29 = .ok (.getfield 12, 3) := by decide +kernel
theorem dX7_tellMeanWorth_32 : decode cX7_tellMeanWorth 32 = .ok (.iload_n 1, 1) := by decide +kernel
theorem dX7_tellMeanWorth_33 : decode cX7_tellMeanWorth 33 = .ok (.aload_n 0, 1) := by decide +kernel
theorem dX7_tellMeanWorth_34 : decode cX7_tellMeanWorth 34 = .ok (.getfield 21, 3) := by decide +kernel
theorem dX7_tellMeanWorth_37 : decode cX7_tellMeanWorth 37 = .ok (.getfield 47, 3) := by decide +kernel
theorem dX7_tellMeanWorth_40 : decode cX7_tellMeanWorth 40 = .ok (.iload 4, 2) := by decide +kernel
theorem dX7_tellMeanWorth_42 : decode cX7_tellMeanWorth 42 = .ok (.iaload, 1) := by decide +kernel
theorem dX7_tellMeanWorth_43 : decode cX7_tellMeanWorth 43 = .ok (.invokevirtual 64, 3) := by decide +kernel
theorem dX7_tellMeanWorth_46 : decode cX7_tellMeanWorth 46 = .ok (.imul, 1) := by decide +kernel
theorem dX7_tellMeanWorth_47 : decode cX7_tellMeanWorth 47 = .ok (.iadd, 1) := by decide +kernel
theorem dX7_tellMeanWorth_48 : decode cX7_tellMeanWorth 48 = .ok (.istore_n 3, 1) := by decide +kernel
theorem dX7_tellMeanWorth_49 : decode cX7_tellMeanWorth 49 = .ok (.iinc 4 1, 3) := by decide +kernel
theorem dX7_tellMeanWorth_52 : decode cX7_tellMeanWorth 52 = .ok (.goto (-47), 3) := by decide +kernel
theorem dX7_tellMeanWorth_55 : decode cX7_tellMeanWorth 55 = .ok (.aload_n 2, 1) := by decide +kernel
theorem dX7_tellMeanWorth_56 : decode cX7_tellMeanWorth 56 = .ok (.iload_n 3, 1) := by decide +kernel
theorem dX7_tellMeanWorth_57 : decode cX7_tellMeanWorth 57 = .ok (.aload_n 0, 1) := by decide +kernel
theorem dX7_tellMeanWorth_58 : decode cX7_tellMeanWorth 58 = .ok (.getfield 21, 3) := by decide +kernel
theorem dX7_tellMeanWorth_61 : decode cX7_tellMeanWorth 61 = .ok (.invokevirtual 54, 3) := by decide +kernel
theorem dX7_tellMeanWorth_64 : decode cX7_tellMeanWorth 64 = .ok (.bipush 100, 2) := by decide +kernel
theorem dX7_tellMeanWorth_66 : decode cX7_tellMeanWorth 66 = .ok (.imul, 1) := by decide +kernel
theorem dX7_tellMeanWorth_67 : decode cX7_tellMeanWorth 67 = .ok (.invokevirtual 58, 3) := by decide +kernel
theorem dX7_tellMeanWorth_70 : decode cX7_tellMeanWorth 70 = .ok (.return_, 1) := by decide +kernel
theorem dX8_init_0 : decode cX8_init 0 = .ok (.aload_n 0, 1) := by decide +kernel
theorem dX8_init_1 : decode cX8_init 1 = .ok (.invokespecial 1, 3) := by decide +kernel
theorem dX8_init_4 : decode cX8_init 4 = .ok (.aload_n 0, 1) := by decide +kernel
theorem dX8_init_5 : decode cX8_init 5 = .ok (.new 7, 3) := by decide +kernel
theorem dX8_init_8 : decode cX8_init 8 = .ok (.dup, 1) := by decide +kernel
theorem dX8_init_9 : decode cX8_init 9 = .ok (.invokespecial 9, 3) := by decide +kernel
theorem dX8_init_12 : decode cX8_init 12 = .ok (.putfield 10, 3) := by decide +kernel
theorem dX8_init_15 : decode cX8_init 15 = .ok (.aload_n 0, 1) := by decide +kernel
theorem dX8_init_16 : decode cX8_init 16 = .ok (.new 16, 3) := by decide +kernel
theorem dX8_init_19 : decode cX8_init 19 = .ok (.dup, 1) := by decide +kernel
theorem dX8_init_20 : decode cX8_init 20 = .ok (.invokespecial 18, 3) := by decide +kernel
theorem dX8_init_23 : decode cX8_init 23 = .ok (.putfield 19, 3) := by decide +kernel
theorem dX8_init_26 : decode cX8_init 26 = .ok (.aload_n 0, 1) := by decide +kernel
theorem dX8_init_27 : decode cX8_init 27 = .ok (.iconst 2, 1) := by decide +kernel
theorem dX8_init_28 : decode cX8_init 28 = .ok (.anewarray 7, 3) := by decide +kernel
theorem dX8_init_31 : decode cX8_init 31 = .ok (.putfield 23, 3) := by decide +kernel
theorem dX8_init_34 : decode cX8_init 34 = .ok (.iconst 0, 1) := by decide +kernel
theorem dX8_init_35 : decode cX8_init 35 = .ok (.istore_n 1, 1) := by decide +kernel
theorem dX8_init_36 : decode cX8_init 36 = .ok (.iload_n 1, 1) := by decide +kernel
theorem dX8_init_37 : decode cX8_init 37 = .ok (.iconst 2, 1) := by decide +kernel
theorem dX8_init_38 : decode cX8_init 38 = .ok (.if_icmp .ge 22, 3) := by decide +kernel
theorem dX8_init_41 : decode cX8_init 41 = .ok (.aload_n 0, 1) := by decide +kernel
theorem dX8_init_42 : decode cX8_init 42 = .ok (.getfield 23, 3) := by decide +kernel
theorem dX8_init_45 : decode cX8_init 45 = .ok (.iload_n 1, 1) := by decide +kernel
theorem dX8_init_46 : decode cX8_init 46 = .ok (.new 7, 3) := by decide +kernel
theorem dX8_init_49 : decode cX8_init 49 = .ok (.dup, 1) := by decide +kernel
theorem dX8_init_50 : decode cX8_init 50 = .ok (.invokespecial 9, 3) := by decide +kernel
theorem dX8_init_53 : decode cX8_init 53 = .ok (.aastore, 1) := by decide +kernel
theorem dX8_init_54 : decode cX8_init 54 = .ok (.iinc 1 1, 3) := by decide +kernel
theorem dX8_init_57 : decode cX8_init 57 = .ok (.goto (-21), 3) := by decide +kernel
theorem dX8_init_60 : decode cX8_init 60 = .ok (.aload_n 0, 1) := by decide +kernel
theorem dX8_init_61 : decode cX8_init 61 = .ok (.iconst 2, 1) := by decide +kernel
theorem dX8_init_62 : decode cX8_init 62 = .ok (.newarray .boolean, 2) := by decide +kernel
theorem dX8_init_64 : decode cX8_init 64 = .ok (.putfield 27, 3) := by decide +kernel
theorem dX8_init_67 : decode cX8_init 67 = .ok (.aload_n 0, 1) := by decide +kernel
theorem dX8_init_68 : decode cX8_init 68 = .ok (.new 31, 3) := by decide +kernel
theorem dX8_init_71 : decode cX8_init 71 = .ok (.dup, 1) := by decide +kernel
theorem dX8_init_72 : decode cX8_init 72 = .ok (.invokespecial 33, 3) := by decide +kernel
theorem dX8_init_75 : decode cX8_init 75 = .ok (.putfield 34, 3) := by decide +kernel
theorem dX8_init_78 : decode cX8_init 78 = .ok (.aload_n 0, 1) := by decide +kernel
theorem dX8_init_79 : decode cX8_init 79 = .ok (.new 38, 3) := by decide +kernel
theorem dX8_init_82 : decode cX8_init 82 = .ok (.dup, 1) := by decide +kernel
theorem dX8_init_83 : decode cX8_init 83 = .ok (.invokespecial 40, 3) := by decide +kernel
theorem dX8_init_86 : decode cX8_init 86 = .ok (.putfield 41, 3) := by decide +kernel
theorem dX8_init_89 : decode cX8_init 89 = .ok (.aload_n 0, 1) := by decide +kernel
theorem dX8_init_90 : decode cX8_init 90 = .ok (.new 45, 3) := by decide +kernel
theorem dX8_init_93 : decode cX8_init 93 = .ok (.dup, 1) := by decide +kernel
theorem dX8_init_94 : decode cX8_init 94 = .ok (.invokespecial 47, 3) := by decide +kernel
theorem dX8_init_97 : decode cX8_init 97 = .ok (.putfield 48, 3) := by decide +kernel
theorem dX8_init_100 : decode cX8_init 100 = .ok (.aload_n 0, 1) := by decide +kernel
theorem dX8_init_101 : decode cX8_init 101 = .ok (.new 52, 3) := by decide +kernel
theorem dX8_init_104 : decode cX8_init 104 = .ok (.dup, 1) := by decide +kernel
theorem dX8_init_105 : decode cX8_init 105 = .ok (.invokespecial 54, 3) := by decide +kernel
theorem dX8_init_108 : decode cX8_init 108 = .ok (.putfield 55, 3) := by decide +kernel
theorem dX8_init_111 : decode cX8_init 111 = .ok (.aload_n 0, 1) := by decide +kernel
theorem dX8_init_112 : decode cX8_init 112 = .ok (.new 52, 3) := by decide +kernel
theorem dX8_init_115 : decode cX8_init 115 = .ok (.dup, 1) := by decide +kernel
theorem dX8_init_116 : decode cX8_init 116 = .ok (.invokespecial 54, 3) := by decide +kernel
theorem dX8_init_119 : decode cX8_init 119 = .ok (.putfield 59, 3) := by decide +kernel
theorem dX8_init_122 : decode cX8_init 122 = .ok (.return_, 1) := by decide +kernel
theorem dX8_prior_0 : decode cX8_prior 0 = .ok (.aload_n 0, 1) := by decide +kernel
theorem dX8_prior_1 : decode cX8_prior 1 = .ok (.getfield 19, 3) := by decide +kernel
theorem dX8_prior_4 : decode cX8_prior 4 = .ok (.aload_n 0, 1) := by decide +kernel
theorem dX8_prior_5 : decode cX8_prior 5 = .ok (.getfield 10, 3) := by decide +kernel
theorem dX8_prior_8 : decode cX8_prior 8 = .ok (.invokevirtual 62, 3) := by decide +kernel
theorem dX8_prior_11 : decode cX8_prior 11 = .ok (.aload_n 0, 1) := by decide +kernel
theorem dX8_prior_12 : decode cX8_prior 12 = .ok (.aload_n 0, 1) := by decide +kernel
theorem dX8_prior_13 : decode cX8_prior 13 = .ok (.getfield 10, 3) := by decide +kernel
theorem dX8_prior_16 : decode cX8_prior 16 = .ok (.iload_n 1, 1) := by decide +kernel
theorem dX8_prior_17 : decode cX8_prior 17 = .ok (.invokevirtual 66, 3) := by decide +kernel
theorem dX8_prior_20 : decode cX8_prior 20 = .ok (.invokevirtual 70, 3) := by decide +kernel
theorem dX8_prior_23 : decode cX8_prior 23 = .ok (.ireturn, 1) := by decide +kernel
theorem dX8_hire_0 : decode cX8_hire 0 = .ok (.aload_n 0, 1) := by decide +kernel
theorem dX8_hire_1 : decode cX8_hire 1 = .ok (.getfield 19, 3) := by decide +kernel
theorem dX8_hire_4 : decode cX8_hire 4 = .ok (.aload_n 0, 1) := by decide +kernel
theorem dX8_hire_5 : decode cX8_hire 5 = .ok (.getfield 10, 3) := by decide +kernel
theorem dX8_hire_8 : decode cX8_hire 8 = .ok (.invokevirtual 62, 3) := by decide +kernel
theorem dX8_hire_11 : decode cX8_hire 11 = .ok (.aload_n 0, 1) := by decide +kernel
theorem dX8_hire_12 : decode cX8_hire 12 = .ok (.aload_n 0, 1) := by decide +kernel
theorem dX8_hire_13 : decode cX8_hire 13 = .ok (.getfield 10, 3) := by decide +kernel
theorem dX8_hire_16 : decode cX8_hire 16 = .ok (.getfield 73, 3) := by decide +kernel
theorem dX8_hire_19 : decode cX8_hire 19 = .ok (.iload_n 1, 1) := by decide +kernel
theorem dX8_hire_20 : decode cX8_hire 20 = .ok (.iload_n 2, 1) := by decide +kernel
theorem dX8_hire_21 : decode cX8_hire 21 = .ok (.iload_n 3, 1) := by decide +kernel
theorem dX8_hire_22 : decode cX8_hire 22 = .ok (.iload 4, 2) := by decide +kernel
theorem dX8_hire_24 : decode cX8_hire 24 = .ok (.invokevirtual 77, 3) := by decide +kernel
theorem dX8_hire_27 : decode cX8_hire 27 = .ok (.invokevirtual 70, 3) := by decide +kernel
theorem dX8_hire_30 : decode cX8_hire 30 = .ok (.ireturn, 1) := by decide +kernel
theorem dX8_dismiss_0 : decode cX8_dismiss 0 = .ok (.aload_n 0, 1) := by decide +kernel
theorem dX8_dismiss_1 : decode cX8_dismiss 1 = .ok (.getfield 19, 3) := by decide +kernel
theorem dX8_dismiss_4 : decode cX8_dismiss 4 = .ok (.aload_n 0, 1) := by decide +kernel
theorem dX8_dismiss_5 : decode cX8_dismiss 5 = .ok (.getfield 10, 3) := by decide +kernel
theorem dX8_dismiss_8 : decode cX8_dismiss 8 = .ok (.invokevirtual 62, 3) := by decide +kernel
theorem dX8_dismiss_11 : decode cX8_dismiss 11 = .ok (.aload_n 0, 1) := by decide +kernel
theorem dX8_dismiss_12 : decode cX8_dismiss 12 = .ok (.aload_n 0, 1) := by decide +kernel
theorem dX8_dismiss_13 : decode cX8_dismiss 13 = .ok (.getfield 10, 3) := by decide +kernel
theorem dX8_dismiss_16 : decode cX8_dismiss 16 = .ok (.getfield 73, 3) := by decide +kernel
theorem dX8_dismiss_19 : decode cX8_dismiss 19 = .ok (.iload_n 1, 1) := by decide +kernel
theorem dX8_dismiss_20 : decode cX8_dismiss 20 = .ok (.invokevirtual 83, 3) := by decide +kernel
theorem dX8_dismiss_23 : decode cX8_dismiss 23 = .ok (.invokevirtual 70, 3) := by decide +kernel
theorem dX8_dismiss_26 : decode cX8_dismiss 26 = .ok (.ireturn, 1) := by decide +kernel
theorem dX8_refine_0 : decode cX8_refine 0 = .ok (.aload_n 0, 1) := by decide +kernel
theorem dX8_refine_1 : decode cX8_refine 1 = .ok (.getfield 19, 3) := by decide +kernel
theorem dX8_refine_4 : decode cX8_refine 4 = .ok (.aload_n 0, 1) := by decide +kernel
theorem dX8_refine_5 : decode cX8_refine 5 = .ok (.getfield 10, 3) := by decide +kernel
theorem dX8_refine_8 : decode cX8_refine 8 = .ok (.invokevirtual 62, 3) := by decide +kernel
theorem dX8_refine_11 : decode cX8_refine 11 = .ok (.aload_n 0, 1) := by decide +kernel
theorem dX8_refine_12 : decode cX8_refine 12 = .ok (.aload_n 0, 1) := by decide +kernel
theorem dX8_refine_13 : decode cX8_refine 13 = .ok (.iload_n 1, 1) := by decide +kernel
theorem dX8_refine_14 : decode cX8_refine 14 = .ok (.iload_n 2, 1) := by decide +kernel
theorem dX8_refine_15 : decode cX8_refine 15 = .ok (.iload_n 3, 1) := by decide +kernel
theorem dX8_refine_16 : decode cX8_refine 16 = .ok (.invokevirtual 86, 3) := by decide +kernel
theorem dX8_refine_19 : decode cX8_refine 19 = .ok (.invokevirtual 70, 3) := by decide +kernel
theorem dX8_refine_22 : decode cX8_refine 22 = .ok (.ireturn, 1) := by decide +kernel
theorem dX8_join_0 : decode cX8_join 0 = .ok (.aload_n 0, 1) := by decide +kernel
theorem dX8_join_1 : decode cX8_join 1 = .ok (.getfield 19, 3) := by decide +kernel
theorem dX8_join_4 : decode cX8_join 4 = .ok (.aload_n 0, 1) := by decide +kernel
theorem dX8_join_5 : decode cX8_join 5 = .ok (.getfield 10, 3) := by decide +kernel
theorem dX8_join_8 : decode cX8_join 8 = .ok (.invokevirtual 62, 3) := by decide +kernel
theorem dX8_join_11 : decode cX8_join 11 = .ok (.aload_n 0, 1) := by decide +kernel
theorem dX8_join_12 : decode cX8_join 12 = .ok (.aload_n 0, 1) := by decide +kernel
theorem dX8_join_13 : decode cX8_join 13 = .ok (.iload_n 1, 1) := by decide +kernel
theorem dX8_join_14 : decode cX8_join 14 = .ok (.invokevirtual 90, 3) := by decide +kernel
theorem dX8_join_17 : decode cX8_join 17 = .ok (.invokevirtual 70, 3) := by decide +kernel
theorem dX8_join_20 : decode cX8_join 20 = .ok (.ireturn, 1) := by decide +kernel
theorem dX8_adopt_0 : decode cX8_adopt 0 = .ok (.aload_n 0, 1) := by decide +kernel
theorem dX8_adopt_1 : decode cX8_adopt 1 = .ok (.getfield 19, 3) := by decide +kernel
theorem dX8_adopt_4 : decode cX8_adopt 4 = .ok (.aload_n 0, 1) := by decide +kernel
theorem dX8_adopt_5 : decode cX8_adopt 5 = .ok (.getfield 10, 3) := by decide +kernel
theorem dX8_adopt_8 : decode cX8_adopt 8 = .ok (.invokevirtual 62, 3) := by decide +kernel
theorem dX8_adopt_11 : decode cX8_adopt 11 = .ok (.aload_n 0, 1) := by decide +kernel
theorem dX8_adopt_12 : decode cX8_adopt 12 = .ok (.aload_n 0, 1) := by decide +kernel
theorem dX8_adopt_13 : decode cX8_adopt 13 = .ok (.invokevirtual 93, 3) := by decide +kernel
theorem dX8_adopt_16 : decode cX8_adopt 16 = .ok (.invokevirtual 70, 3) := by decide +kernel
theorem dX8_adopt_19 : decode cX8_adopt 19 = .ok (.ireturn, 1) := by decide +kernel
theorem dX8_receiver_0 : decode cX8_receiver 0 = .ok (.aload_n 0, 1) := by decide +kernel
theorem dX8_receiver_1 : decode cX8_receiver 1 = .ok (.getfield 10, 3) := by decide +kernel
theorem dX8_receiver_4 : decode cX8_receiver 4 = .ok (.getfield 73, 3) := by decide +kernel
theorem dX8_receiver_7 : decode cX8_receiver 7 = .ok (.astore_n 3, 1) := by decide +kernel
theorem dX8_receiver_8 : decode cX8_receiver 8 = .ok (.aload_n 3, 1) := by decide +kernel
theorem dX8_receiver_9 : decode cX8_receiver 9 = .ok (.iload_n 1, 1) := by decide +kernel
theorem dX8_receiver_10 : decode cX8_receiver 10 = .ok (.invokevirtual 97, 3) := by decide +kernel
theorem dX8_receiver_13 : decode cX8_receiver 13 = .ok (.ifCond .ne 5, 3) := by decide +kernel
theorem dX8_receiver_16 : decode cX8_receiver 16 = .ok (.iconst (-1), 1) := by decide +kernel
theorem dX8_receiver_17 : decode cX8_receiver 17 = .ok (.ireturn, 1) := by decide +kernel
theorem dX8_receiver_18 : decode cX8_receiver 18 = .ok (.iload_n 2, 1) := by decide +kernel
theorem dX8_receiver_19 : decode cX8_receiver 19 = .ok (.tableswitch 70 0 4 #[33, 40, 47, 54, 64], 33) := by decide +kernel
theorem dX8_receiver_52 : decode cX8_receiver 52 = .ok (.aload_n 3, 1) := by decide +kernel
theorem dX8_receiver_53 : decode cX8_receiver 53 = .ok (.getfield 101, 3) := by decide +kernel
theorem dX8_receiver_56 : decode cX8_receiver 56 = .ok (.iload_n 1, 1) := by decide +kernel
theorem dX8_receiver_57 : decode cX8_receiver 57 = .ok (.iaload, 1) := by decide +kernel
theorem dX8_receiver_58 : decode cX8_receiver 58 = .ok (.ireturn, 1) := by decide +kernel
theorem dX8_receiver_59 : decode cX8_receiver 59 = .ok (.aload_n 3, 1) := by decide +kernel
theorem dX8_receiver_60 : decode cX8_receiver 60 = .ok (.getfield 105, 3) := by decide +kernel
theorem dX8_receiver_63 : decode cX8_receiver 63 = .ok (.iload_n 1, 1) := by decide +kernel
theorem dX8_receiver_64 : decode cX8_receiver 64 = .ok (.iaload, 1) := by decide +kernel
theorem dX8_receiver_65 : decode cX8_receiver 65 = .ok (.ireturn, 1) := by decide +kernel
theorem dX8_receiver_66 : decode cX8_receiver 66 = .ok (.aload_n 3, 1) := by decide +kernel
theorem dX8_receiver_67 : decode cX8_receiver 67 = .ok (.getfield 108, 3) := by decide +kernel
theorem dX8_receiver_70 : decode cX8_receiver 70 = .ok (.iload_n 1, 1) := by decide +kernel
theorem dX8_receiver_71 : decode cX8_receiver 71 = .ok (.iaload, 1) := by decide +kernel
theorem dX8_receiver_72 : decode cX8_receiver 72 = .ok (.ireturn, 1) := by decide +kernel
theorem dX8_receiver_73 : decode cX8_receiver 73 = .ok (.aload_n 3, 1) := by decide +kernel
theorem dX8_receiver_74 : decode cX8_receiver 74 = .ok (.getfield 111, 3) := by decide +kernel
theorem dX8_receiver_77 : decode cX8_receiver 77 = .ok (.iload_n 1, 1) := by decide +kernel
theorem dX8_receiver_78 : decode cX8_receiver 78 = .ok (.iaload, 1) := by decide +kernel
theorem dX8_receiver_79 : decode cX8_receiver 79 = .ok (.bipush 100, 2) := by decide +kernel
theorem dX8_receiver_81 : decode cX8_receiver 81 = .ok (.iadd, 1) := by decide +kernel
theorem dX8_receiver_82 : decode cX8_receiver 82 = .ok (.ireturn, 1) := by decide +kernel
theorem dX8_receiver_83 : decode cX8_receiver 83 = .ok (.aload_n 3, 1) := by decide +kernel
theorem dX8_receiver_84 : decode cX8_receiver 84 = .ok (.iload_n 1, 1) := by decide +kernel
theorem dX8_receiver_85 : decode cX8_receiver 85 = .ok (.invokevirtual 114, 3) := by decide +kernel
theorem dX8_receiver_88 : decode cX8_receiver 88 = .ok (.ireturn, 1) := by decide +kernel
theorem dX8_receiver_89 : decode cX8_receiver 89 = .ok (.bipush (-2), 2) := by decide +kernel
theorem dX8_receiver_91 : decode cX8_receiver 91 = .ok (.ireturn, 1) := by decide +kernel
theorem dX8_part_0 : decode cX8_part 0 = .ok (.aload_n 0, 1) := by decide +kernel
theorem dX8_part_1 : decode cX8_part 1 = .ok (.getfield 10, 3) := by decide +kernel
theorem dX8_part_4 : decode cX8_part 4 = .ok (.getfield 117, 3) := by decide +kernel
theorem dX8_part_7 : decode cX8_part 7 = .ok (.astore_n 3, 1) := by decide +kernel
theorem dX8_part_8 : decode cX8_part 8 = .ok (.aload_n 3, 1) := by decide +kernel
theorem dX8_part_9 : decode cX8_part 9 = .ok (.iload_n 1, 1) := by decide +kernel
theorem dX8_part_10 : decode cX8_part 10 = .ok (.invokevirtual 121, 3) := by decide +kernel
theorem dX8_part_13 : decode cX8_part 13 = .ok (.ifCond .ne 5, 3) := by decide +kernel
theorem dX8_part_16 : decode cX8_part 16 = .ok (.iconst (-1), 1) := by decide +kernel
theorem dX8_part_17 : decode cX8_part 17 = .ok (.ireturn, 1) := by decide +kernel
theorem dX8_part_18 : decode cX8_part 18 = .ok (.iload_n 2, 1) := by decide +kernel
theorem dX8_part_19 : decode cX8_part 19 = .ok (.tableswitch 81 0 3 #[29, 36, 43, 60], 29) := by decide +kernel
theorem dX8_part_48 : decode cX8_part 48 = .ok (.aload_n 3, 1) := by decide +kernel
theorem dX8_part_49 : decode cX8_part 49 = .ok (.getfield 124, 3) := by decide +kernel
theorem dX8_part_52 : decode cX8_part 52 = .ok (.iload_n 1, 1) := by decide +kernel
theorem dX8_part_53 : decode cX8_part 53 = .ok (.iaload, 1) := by decide +kernel
theorem dX8_part_54 : decode cX8_part 54 = .ok (.ireturn, 1) := by decide +kernel
theorem dX8_part_55 : decode cX8_part 55 = .ok (.aload_n 3, 1) := by decide +kernel
theorem dX8_part_56 : decode cX8_part 56 = .ok (.getfield 127, 3) := by decide +kernel
theorem dX8_part_59 : decode cX8_part 59 = .ok (.iload_n 1, 1) := by decide +kernel
theorem dX8_part_60 : decode cX8_part 60 = .ok (.iaload, 1) := by decide +kernel
theorem dX8_part_61 : decode cX8_part 61 = .ok (.ireturn, 1) := by decide +kernel
theorem dX8_part_62 : decode cX8_part 62 = .ok (.aload_n 0, 1) := by decide +kernel
theorem dX8_part_63 : decode cX8_part 63 = .ok (.getfield 10, 3) := by decide +kernel
theorem dX8_part_66 : decode cX8_part 66 = .ok (.getfield 73, 3) := by decide +kernel
theorem dX8_part_69 : decode cX8_part 69 = .ok (.aload_n 3, 1) := by decide +kernel
theorem dX8_part_70 : decode cX8_part 70 = .ok (.getfield 127, 3) := by decide +kernel
theorem dX8_part_73 : decode cX8_part 73 = .ok (.iload_n 1, 1) := by decide +kernel
theorem dX8_part_74 : decode cX8_part 74 = .ok (.iaload, 1) := by decide +kernel
theorem dX8_part_75 : decode cX8_part 75 = .ok (.invokevirtual 130, 3) := by decide +kernel
theorem dX8_part_78 : decode cX8_part 78 = .ok (.ireturn, 1) := by decide +kernel
theorem dX8_part_79 : decode cX8_part 79 = .ok (.aload_n 0, 1) := by decide +kernel
theorem dX8_part_80 : decode cX8_part 80 = .ok (.getfield 10, 3) := by decide +kernel
theorem dX8_part_83 : decode cX8_part 83 = .ok (.getfield 73, 3) := by decide +kernel
theorem dX8_part_86 : decode cX8_part 86 = .ok (.aload_n 3, 1) := by decide +kernel
theorem dX8_part_87 : decode cX8_part 87 = .ok (.getfield 127, 3) := by decide +kernel
theorem dX8_part_90 : decode cX8_part 90 = .ok (.iload_n 1, 1) := by decide +kernel
theorem dX8_part_91 : decode cX8_part 91 = .ok (.iaload, 1) := by decide +kernel
theorem dX8_part_92 : decode cX8_part 92 = .ok (.invokevirtual 133, 3) := by decide +kernel
theorem dX8_part_95 : decode cX8_part 95 = .ok (.sipush 1000, 3) := by decide +kernel
theorem dX8_part_98 : decode cX8_part 98 = .ok (.iadd, 1) := by decide +kernel
theorem dX8_part_99 : decode cX8_part 99 = .ok (.ireturn, 1) := by decide +kernel
theorem dX8_part_100 : decode cX8_part 100 = .ok (.bipush (-2), 2) := by decide +kernel
theorem dX8_part_102 : decode cX8_part 102 = .ok (.ireturn, 1) := by decide +kernel
theorem dX8_value_0 : decode cX8_value 0 = .ok (.iload_n 1, 1) := by decide +kernel
theorem dX8_value_1 : decode cX8_value 1 = .ok (.invokestatic 136, 3) := by decide +kernel
theorem dX8_value_4 : decode cX8_value 4 = .ok (.ifCond .ne 6, 3) := by decide +kernel
theorem dX8_value_7 : decode cX8_value 7 = .ok (.bipush (-2), 2) := by decide +kernel
theorem dX8_value_9 : decode cX8_value 9 = .ok (.ireturn, 1) := by decide +kernel
theorem dX8_value_10 : decode cX8_value 10 = .ok (.aload_n 0, 1) := by decide +kernel
theorem dX8_value_11 : decode cX8_value 11 = .ok (.getfield 10, 3) := by decide +kernel
theorem dX8_value_14 : decode cX8_value 14 = .ok (.getfield 73, 3) := by decide +kernel
theorem dX8_value_17 : decode cX8_value 17 = .ok (.iload_n 1, 1) := by decide +kernel
theorem dX8_value_18 : decode cX8_value 18 = .ok (.invokevirtual 133, 3) := by decide +kernel
theorem dX8_value_21 : decode cX8_value 21 = .ok (.sipush 1000, 3) := by decide +kernel
theorem dX8_value_24 : decode cX8_value 24 = .ok (.iadd, 1) := by decide +kernel
theorem dX8_value_25 : decode cX8_value 25 = .ok (.ireturn, 1) := by decide +kernel
theorem dX8_mean_0 : decode cX8_mean 0 = .ok (.iload_n 1, 1) := by decide +kernel
theorem dX8_mean_1 : decode cX8_mean 1 = .ok (.invokestatic 139, 3) := by decide +kernel
theorem dX8_mean_4 : decode cX8_mean 4 = .ok (.ifCond .ne 6, 3) := by decide +kernel
theorem dX8_mean_7 : decode cX8_mean 7 = .ok (.bipush (-2), 2) := by decide +kernel
theorem dX8_mean_9 : decode cX8_mean 9 = .ok (.ireturn, 1) := by decide +kernel
theorem dX8_mean_10 : decode cX8_mean 10 = .ok (.aload_n 0, 1) := by decide +kernel
theorem dX8_mean_11 : decode cX8_mean 11 = .ok (.getfield 10, 3) := by decide +kernel
theorem dX8_mean_14 : decode cX8_mean 14 = .ok (.aload_n 0, 1) := by decide +kernel
theorem dX8_mean_15 : decode cX8_mean 15 = .ok (.getfield 55, 3) := by decide +kernel
theorem dX8_mean_18 : decode cX8_mean 18 = .ok (.invokevirtual 142, 3) := by decide +kernel
theorem dX8_mean_21 : decode cX8_mean 21 = .ok (.iload_n 1, 1) := by decide +kernel
theorem dX8_mean_22 : decode cX8_mean 22 = .ok (.ifCond .ne 16, 3) := by decide +kernel
theorem dX8_mean_25 : decode cX8_mean 25 = .ok (.aload_n 0, 1) := by decide +kernel
theorem dX8_mean_26 : decode cX8_mean 26 = .ok (.getfield 55, 3) := by decide +kernel
theorem dX8_mean_29 : decode cX8_mean 29 = .ok (.getfield 146, 3) := by decide +kernel
theorem dX8_mean_32 : decode cX8_mean 32 = .ok (.ldc 150, 2) := by decide +kernel
theorem dX8_mean_34 : decode cX8_mean 34 = .ok (.iadd, 1) := by decide +kernel
theorem dX8_mean_35 : decode cX8_mean 35 = .ok (.goto 10, 3) := by decide +kernel
theorem dX8_mean_38 : decode cX8_mean 38 = .ok (.aload_n 0, 1) := by decide +kernel
theorem dX8_mean_39 : decode cX8_mean 39 = .ok (.getfield 55, 3) := by decide +kernel
theorem dX8_mean_42 : decode cX8_mean 42 = .ok (.getfield 151, 3) := by decide +kernel
theorem dX8_mean_45 : decode cX8_mean 45 = .ok (.ireturn, 1) := by decide +kernel
theorem dX8_worth_0 : decode cX8_worth 0 = .ok (.aload_n 0, 1) := by decide +kernel
theorem dX8_worth_1 : decode cX8_worth 1 = .ok (.getfield 10, 3) := by decide +kernel
theorem dX8_worth_4 : decode cX8_worth 4 = .ok (.getfield 73, 3) := by decide +kernel
theorem dX8_worth_7 : decode cX8_worth 7 = .ok (.iload_n 1, 1) := by decide +kernel
theorem dX8_worth_8 : decode cX8_worth 8 = .ok (.invokevirtual 97, 3) := by decide +kernel
theorem dX8_worth_11 : decode cX8_worth 11 = .ok (.ifCond .ne 5, 3) := by decide +kernel
theorem dX8_worth_14 : decode cX8_worth 14 = .ok (.iconst (-1), 1) := by decide +kernel
theorem dX8_worth_15 : decode cX8_worth 15 = .ok (.ireturn, 1) := by decide +kernel
theorem dX8_worth_16 : decode cX8_worth 16 = .ok (.iload_n 2, 1) := by decide +kernel
theorem dX8_worth_17 : decode cX8_worth 17 = .ok (.invokestatic 139, 3) := by decide +kernel
theorem dX8_worth_20 : decode cX8_worth 20 = .ok (.ifCond .ne 6, 3) := by decide +kernel
theorem dX8_worth_23 : decode cX8_worth 23 = .ok (.bipush (-2), 2) := by decide +kernel
theorem dX8_worth_25 : decode cX8_worth 25 = .ok (.ireturn, 1) := by decide +kernel
theorem dX8_worth_26 : decode cX8_worth 26 = .ok (.aload_n 0, 1) := by decide +kernel
theorem dX8_worth_27 : decode cX8_worth 27 = .ok (.getfield 10, 3) := by decide +kernel
theorem dX8_worth_30 : decode cX8_worth 30 = .ok (.iload_n 1, 1) := by decide +kernel
theorem dX8_worth_31 : decode cX8_worth 31 = .ok (.aload_n 0, 1) := by decide +kernel
theorem dX8_worth_32 : decode cX8_worth 32 = .ok (.getfield 55, 3) := by decide +kernel
theorem dX8_worth_35 : decode cX8_worth 35 = .ok (.invokevirtual 154, 3) := by decide +kernel
theorem dX8_worth_38 : decode cX8_worth 38 = .ok (.iload_n 2, 1) := by decide +kernel
theorem dX8_worth_39 : decode cX8_worth 39 = .ok (.ifCond .ne 13, 3) := by decide +kernel
theorem dX8_worth_42 : decode cX8_worth 42 = .ok (.aload_n 0, 1) := by decide +kernel
theorem dX8_worth_43 : decode cX8_worth 43 = .ok (.getfield 55, 3) := by decide +kernel
theorem dX8_worth_46 : decode cX8_worth 46 = .ok (.getfield 146, 3) := by decide +kernel
theorem dX8_worth_49 : decode cX8_worth 49 = .ok (.goto 10, 3) := by decide +kernel
theorem dX8_worth_52 : decode cX8_worth 52 = .ok (.aload_n 0, 1) := by decide +kernel
theorem dX8_worth_53 : decode cX8_worth 53 = .ok (.getfield 55, 3) := by decide +kernel
theorem dX8_worth_56 : decode cX8_worth 56 = .ok (.getfield 151, 3) := by decide +kernel
theorem dX8_worth_59 : decode cX8_worth 59 = .ok (.ireturn, 1) := by decide +kernel
theorem dX8_count_0 : decode cX8_count 0 = .ok (.iload_n 1, 1) := by decide +kernel
theorem dX8_count_1 : decode cX8_count 1 = .ok (.tableswitch 113 0 6 #[43, 51, 62, 73, 84, 97, 105], 43) := by decide +kernel
theorem dX8_count_44 : decode cX8_count 44 = .ok (.aload_n 0, 1) := by decide +kernel
theorem dX8_count_45 : decode cX8_count 45 = .ok (.getfield 10, 3) := by decide +kernel
theorem dX8_count_48 : decode cX8_count 48 = .ok (.getfield 158, 3) := by decide +kernel
theorem dX8_count_51 : decode cX8_count 51 = .ok (.ireturn, 1) := by decide +kernel
theorem dX8_count_52 : decode cX8_count 52 = .ok (.aload_n 0, 1) := by decide +kernel
theorem dX8_count_53 : decode cX8_count 53 = .ok (.getfield 10, 3) := by decide +kernel
theorem dX8_count_56 : decode cX8_count 56 = .ok (.getfield 73, 3) := by decide +kernel
theorem dX8_count_59 : decode cX8_count 59 = .ok (.getfield 161, 3) := by decide +kernel
theorem dX8_count_62 : decode cX8_count 62 = .ok (.ireturn, 1) := by decide +kernel
theorem dX8_count_63 : decode cX8_count 63 = .ok (.aload_n 0, 1) := by decide +kernel
theorem dX8_count_64 : decode cX8_count 64 = .ok (.getfield 10, 3) := by decide +kernel
theorem dX8_count_67 : decode cX8_count 67 = .ok (.getfield 117, 3) := by decide +kernel
theorem dX8_count_70 : decode cX8_count 70 = .ok (.getfield 164, 3) := by decide +kernel
theorem dX8_count_73 : decode cX8_count 73 = .ok (.ireturn, 1) := by decide +kernel
theorem dX8_count_74 : decode cX8_count 74 = .ok (.aload_n 0, 1) := by decide +kernel
theorem dX8_count_75 : decode cX8_count 75 = .ok (.getfield 10, 3) := by decide +kernel
theorem dX8_count_78 : decode cX8_count 78 = .ok (.getfield 117, 3) := by decide +kernel
theorem dX8_count_81 : decode cX8_count 81 = .ok (.invokevirtual 167, 3) := by decide +kernel
theorem dX8_count_84 : decode cX8_count 84 = .ok (.ireturn, 1) := by decide +kernel
theorem dX8_count_85 : decode cX8_count 85 = .ok (.aload_n 0, 1) := by decide +kernel
theorem dX8_count_86 : decode cX8_count 86 = .ok (.invokevirtual 170, 3) := by decide +kernel
theorem dX8_count_89 : decode cX8_count 89 = .ok (.ifCond .eq 7, 3) := by decide +kernel
theorem dX8_count_92 : decode cX8_count 92 = .ok (.iconst 1, 1) := by decide +kernel
theorem dX8_count_93 : decode cX8_count 93 = .ok (.goto 4, 3) := by decide +kernel
theorem dX8_count_96 : decode cX8_count 96 = .ok (.iconst 0, 1) := by decide +kernel
theorem dX8_count_97 : decode cX8_count 97 = .ok (.ireturn, 1) := by decide +kernel
theorem dX8_count_98 : decode cX8_count 98 = .ok (.aload_n 0, 1) := by decide +kernel
theorem dX8_count_99 : decode cX8_count 99 = .ok (.getfield 34, 3) := by decide +kernel
theorem dX8_count_102 : decode cX8_count 102 = .ok (.getfield 174, 3) := by decide +kernel
theorem dX8_count_105 : decode cX8_count 105 = .ok (.ireturn, 1) := by decide +kernel
theorem dX8_count_106 : decode cX8_count 106 = .ok (.aload_n 0, 1) := by decide +kernel
theorem dX8_count_107 : decode cX8_count 107 = .ok (.getfield 19, 3) := by decide +kernel
theorem dX8_count_110 : decode cX8_count 110 = .ok (.getfield 177, 3) := by decide +kernel
theorem dX8_count_113 : decode cX8_count 113 = .ok (.ireturn, 1) := by decide +kernel
theorem dX8_count_114 : decode cX8_count 114 = .ok (.bipush (-2), 2) := by decide +kernel
theorem dX8_count_116 : decode cX8_count 116 = .ok (.ireturn, 1) := by decide +kernel
theorem dX8_envelope_0 : decode cX8_envelope 0 = .ok (.iload_n 1, 1) := by decide +kernel
theorem dX8_envelope_1 : decode cX8_envelope 1 = .ok (.invokestatic 136, 3) := by decide +kernel
theorem dX8_envelope_4 : decode cX8_envelope 4 = .ok (.ifCond .eq 10, 3) := by decide +kernel
theorem dX8_envelope_7 : decode cX8_envelope 7 = .ok (.iload_n 2, 1) := by decide +kernel
theorem dX8_envelope_8 : decode cX8_envelope 8 = .ok (.invokestatic 139, 3) := by decide +kernel
theorem dX8_envelope_11 : decode cX8_envelope 11 = .ok (.ifCond .ne 6, 3) := by decide +kernel
theorem dX8_envelope_14 : decode cX8_envelope 14 = .ok (.bipush (-2), 2) := by decide +kernel
theorem dX8_envelope_16 : decode cX8_envelope 16 = .ok (.ireturn, 1) := by decide +kernel
theorem dX8_envelope_17 : decode cX8_envelope 17 = .ok (.aload_n 0, 1) := by decide +kernel
theorem dX8_envelope_18 : decode cX8_envelope 18 = .ok (.iload_n 1, 1) := by decide +kernel
theorem dX8_envelope_19 : decode cX8_envelope 19 = .ok (.invokevirtual 180, 3) := by decide +kernel
theorem dX8_envelope_22 : decode cX8_envelope 22 = .ok (.aload_n 0, 1) := by decide +kernel
theorem dX8_envelope_23 : decode cX8_envelope 23 = .ok (.getfield 48, 3) := by decide +kernel
theorem dX8_envelope_26 : decode cX8_envelope 26 = .ok (.aload_n 0, 1) := by decide +kernel
theorem dX8_envelope_27 : decode cX8_envelope 27 = .ok (.getfield 55, 3) := by decide +kernel
theorem dX8_envelope_30 : decode cX8_envelope 30 = .ok (.invokevirtual 184, 3) := by decide +kernel
theorem dX8_envelope_33 : decode cX8_envelope 33 = .ok (.iload_n 2, 1) := by decide +kernel
theorem dX8_envelope_34 : decode cX8_envelope 34 = .ok (.ifCond .ne 16, 3) := by decide +kernel
theorem dX8_envelope_37 : decode cX8_envelope 37 = .ok (.aload_n 0, 1) := by decide +kernel
theorem dX8_envelope_38 : decode cX8_envelope 38 = .ok (.getfield 55, 3) := by decide +kernel
theorem dX8_envelope_41 : decode cX8_envelope 41 = .ok (.getfield 146, 3) := by decide +kernel
theorem dX8_envelope_44 : decode cX8_envelope 44 = .ok (.ldc 150, 2) := by decide +kernel
theorem dX8_envelope_46 : decode cX8_envelope 46 = .ok (.iadd, 1) := by decide +kernel
theorem dX8_envelope_47 : decode cX8_envelope 47 = .ok (.goto 10, 3) := by decide +kernel
theorem dX8_envelope_50 : decode cX8_envelope 50 = .ok (.aload_n 0, 1) := by decide +kernel
theorem dX8_envelope_51 : decode cX8_envelope 51 = .ok (.getfield 55, 3) := by decide +kernel
theorem dX8_envelope_54 : decode cX8_envelope 54 = .ok (.getfield 151, 3) := by decide +kernel
theorem dX8_envelope_57 : decode cX8_envelope 57 = .ok (.ireturn, 1) := by decide +kernel
theorem dX8_best_0 : decode cX8_best 0 = .ok (.iload_n 1, 1) := by decide +kernel
theorem dX8_best_1 : decode cX8_best 1 = .ok (.invokestatic 136, 3) := by decide +kernel
theorem dX8_best_4 : decode cX8_best 4 = .ok (.ifCond .ne 6, 3) := by decide +kernel
theorem dX8_best_7 : decode cX8_best 7 = .ok (.bipush (-2), 2) := by decide +kernel
theorem dX8_best_9 : decode cX8_best 9 = .ok (.ireturn, 1) := by decide +kernel
theorem dX8_best_10 : decode cX8_best 10 = .ok (.aload_n 0, 1) := by decide +kernel
theorem dX8_best_11 : decode cX8_best 11 = .ok (.iload_n 1, 1) := by decide +kernel
theorem dX8_best_12 : decode cX8_best 12 = .ok (.invokevirtual 180, 3) := by decide +kernel
theorem dX8_best_15 : decode cX8_best 15 = .ok (.iload_n 2, 1) := by decide +kernel
theorem dX8_best_16 : decode cX8_best 16 = .ok (.tableswitch 64 0 3 #[32, 40, 48, 56], 32) := by decide +kernel
theorem dX8_best_48 : decode cX8_best 48 = .ok (.aload_n 0, 1) := by decide +kernel
theorem dX8_best_49 : decode cX8_best 49 = .ok (.getfield 48, 3) := by decide +kernel
theorem dX8_best_52 : decode cX8_best 52 = .ok (.getfield 187, 3) := by decide +kernel
theorem dX8_best_55 : decode cX8_best 55 = .ok (.ireturn, 1) := by decide +kernel
theorem dX8_best_56 : decode cX8_best 56 = .ok (.aload_n 0, 1) := by decide +kernel
theorem dX8_best_57 : decode cX8_best 57 = .ok (.getfield 48, 3) := by decide +kernel
theorem dX8_best_60 : decode cX8_best 60 = .ok (.getfield 190, 3) := by decide +kernel
theorem dX8_best_63 : decode cX8_best 63 = .ok (.ireturn, 1) := by decide +kernel
theorem dX8_best_64 : decode cX8_best 64 = .ok (.aload_n 0, 1) := by decide +kernel
theorem dX8_best_65 : decode cX8_best 65 = .ok (.getfield 48, 3) := by decide +kernel
theorem dX8_best_68 : decode cX8_best 68 = .ok (.getfield 193, 3) := by decide +kernel
theorem dX8_best_71 : decode cX8_best 71 = .ok (.ireturn, 1) := by decide +kernel
theorem dX8_best_72 : decode cX8_best 72 = .ok (.aload_n 0, 1) := by decide +kernel
theorem dX8_best_73 : decode cX8_best 73 = .ok (.getfield 48, 3) := by decide +kernel
theorem dX8_best_76 : decode cX8_best 76 = .ok (.getfield 196, 3) := by decide +kernel
theorem dX8_best_79 : decode cX8_best 79 = .ok (.ireturn, 1) := by decide +kernel
theorem dX8_best_80 : decode cX8_best 80 = .ok (.bipush (-2), 2) := by decide +kernel
theorem dX8_best_82 : decode cX8_best 82 = .ok (.ireturn, 1) := by decide +kernel
theorem dX8_isPosterior_0 : decode cX8_isPosterior 0 = .ok (.iload_n 0, 1) := by decide +kernel
theorem dX8_isPosterior_1 : decode cX8_isPosterior 1 = .ok (.ifCond .lt 13, 3) := by decide +kernel
theorem dX8_isPosterior_4 : decode cX8_isPosterior 4 = .ok (.iload_n 0, 1) := by decide +kernel
theorem dX8_isPosterior_5 : decode cX8_isPosterior 5 = .ok (.bipush 100, 2) := by decide +kernel
theorem dX8_isPosterior_7 : decode cX8_isPosterior 7 = .ok (.if_icmp .gt 7, 3) := by decide +kernel
theorem dX8_isPosterior_10 : decode cX8_isPosterior 10 = .ok (.iconst 1, 1) := by decide +kernel
theorem dX8_isPosterior_11 : decode cX8_isPosterior 11 = .ok (.goto 4, 3) := by decide +kernel
theorem dX8_isPosterior_14 : decode cX8_isPosterior 14 = .ok (.iconst 0, 1) := by decide +kernel
theorem dX8_isPosterior_15 : decode cX8_isPosterior 15 = .ok (.ireturn, 1) := by decide +kernel
theorem dX8_isHalfOfFraction_0 : decode cX8_isHalfOfFraction 0 = .ok (.iload_n 0, 1) := by decide +kernel
theorem dX8_isHalfOfFraction_1 : decode cX8_isHalfOfFraction 1 = .ok (.ifCond .eq 8, 3) := by decide +kernel
theorem dX8_isHalfOfFraction_4 : decode cX8_isHalfOfFraction 4 = .ok (.iload_n 0, 1) := by decide +kernel
theorem dX8_isHalfOfFraction_5 : decode cX8_isHalfOfFraction 5 = .ok (.iconst 1, 1) := by decide +kernel
theorem dX8_isHalfOfFraction_6 : decode cX8_isHalfOfFraction 6 = .ok (.if_icmp .ne 7, 3) := by decide +kernel
theorem dX8_isHalfOfFraction_9 : decode cX8_isHalfOfFraction 9 = .ok (.iconst 1, 1) := by decide +kernel
theorem dX8_isHalfOfFraction_10 : decode cX8_isHalfOfFraction 10 = .ok (.goto 4, 3) := by decide +kernel
theorem dX8_isHalfOfFraction_13 : decode cX8_isHalfOfFraction 13 = .ok (.iconst 0, 1) := by decide +kernel
theorem dX8_isHalfOfFraction_14 : decode cX8_isHalfOfFraction 14 = .ok (.ireturn, 1) := by decide +kernel
theorem dX8_recorded_0 : decode cX8_recorded 0 = .ok (.iload_n 1, 1) := by decide +kernel
theorem dX8_recorded_1 : decode cX8_recorded 1 = .ok (.ifCond .lt 10, 3) := by decide +kernel
theorem dX8_recorded_4 : decode cX8_recorded 4 = .ok (.aload_n 0, 1) := by decide +kernel
theorem dX8_recorded_5 : decode cX8_recorded 5 = .ok (.getfield 19, 3) := by decide +kernel
theorem dX8_recorded_8 : decode cX8_recorded 8 = .ok (.invokevirtual 221, 3) := by decide +kernel
theorem dX8_recorded_11 : decode cX8_recorded 11 = .ok (.iload_n 1, 1) := by decide +kernel
theorem dX8_recorded_12 : decode cX8_recorded 12 = .ok (.ireturn, 1) := by decide +kernel
theorem dX8_splitPart_0 : decode cX8_splitPart 0 = .ok (.aload_n 0, 1) := by decide +kernel
theorem dX8_splitPart_1 : decode cX8_splitPart 1 = .ok (.getfield 10, 3) := by decide +kernel
theorem dX8_splitPart_4 : decode cX8_splitPart 4 = .ok (.getfield 117, 3) := by decide +kernel
theorem dX8_splitPart_7 : decode cX8_splitPart 7 = .ok (.astore 4, 2) := by decide +kernel
theorem dX8_splitPart_9 : decode cX8_splitPart 9 = .ok (.aload 4, 2) := by decide +kernel
theorem dX8_splitPart_11 : decode cX8_splitPart 11 = .ok (.iload_n 1, 1) := by decide +kernel
theorem dX8_splitPart_12 : decode cX8_splitPart 12 = .ok (.invokevirtual 121, 3) := by decide +kernel
theorem dX8_splitPart_15 : decode cX8_splitPart 15 = .ok (.ifCond .ne 5, 3) := by decide +kernel
theorem dX8_splitPart_18 : decode cX8_splitPart 18 = .ok (.iconst (-1), 1) := by decide +kernel
theorem dX8_splitPart_19 : decode cX8_splitPart 19 = .ok (.ireturn, 1) := by decide +kernel
theorem dX8_splitPart_20 : decode cX8_splitPart 20 = .ok (.aload 4, 2) := by decide +kernel
theorem dX8_splitPart_22 : decode cX8_splitPart 22 = .ok (.getfield 127, 3) := by decide +kernel
theorem dX8_splitPart_25 : decode cX8_splitPart 25 = .ok (.iload_n 1, 1) := by decide +kernel
theorem dX8_splitPart_26 : decode cX8_splitPart 26 = .ok (.iaload, 1) := by decide +kernel
theorem dX8_splitPart_27 : decode cX8_splitPart 27 = .ok (.istore 5, 2) := by decide +kernel
theorem dX8_splitPart_29 : decode cX8_splitPart 29 = .ok (.iload_n 2, 1) := by decide +kernel
theorem dX8_splitPart_30 : decode cX8_splitPart 30 = .ok (.ifCond .lt 21, 3) := by decide +kernel
theorem dX8_splitPart_33 : decode cX8_splitPart 33 = .ok (.iload_n 2, 1) := by decide +kernel
theorem dX8_splitPart_34 : decode cX8_splitPart 34 = .ok (.iload 5, 2) := by decide +kernel
theorem dX8_splitPart_36 : decode cX8_splitPart 36 = .ok (.if_icmp .gt 15, 3) := by decide +kernel
theorem dX8_splitPart_39 : decode cX8_splitPart 39 = .ok (.iload_n 3, 1) := by decide +kernel
theorem dX8_splitPart_40 : decode cX8_splitPart 40 = .ok (.iload 5, 2) := by decide +kernel
theorem dX8_splitPart_42 : decode cX8_splitPart 42 = .ok (.if_icmp .lt 9, 3) := by decide +kernel
theorem dX8_splitPart_45 : decode cX8_splitPart 45 = .ok (.iload_n 3, 1) := by decide +kernel
theorem dX8_splitPart_46 : decode cX8_splitPart 46 = .ok (.bipush 100, 2) := by decide +kernel
theorem dX8_splitPart_48 : decode cX8_splitPart 48 = .ok (.if_icmp .le 6, 3) := by decide +kernel
theorem dX8_splitPart_51 : decode cX8_splitPart 51 = .ok (.bipush (-2), 2) := by decide +kernel
theorem dX8_splitPart_53 : decode cX8_splitPart 53 = .ok (.ireturn, 1) := by decide +kernel
theorem dX8_splitPart_54 : decode cX8_splitPart 54 = .ok (.iload_n 2, 1) := by decide +kernel
theorem dX8_splitPart_55 : decode cX8_splitPart 55 = .ok (.iload_n 3, 1) := by decide +kernel
theorem dX8_splitPart_56 : decode cX8_splitPart 56 = .ok (.if_icmp .ne 9, 3) := by decide +kernel
theorem dX8_splitPart_59 : decode cX8_splitPart 59 = .ok (.aload 4, 2) := by decide +kernel
theorem dX8_splitPart_61 : decode cX8_splitPart 61 = .ok (.getfield 164, 3) := by decide +kernel
theorem dX8_splitPart_64 : decode cX8_splitPart 64 = .ok (.ireturn, 1) := by decide +kernel
theorem dX8_splitPart_65 : decode cX8_splitPart 65 = .ok (.iload_n 3, 1) := by decide +kernel
theorem dX8_splitPart_66 : decode cX8_splitPart 66 = .ok (.iload_n 2, 1) := by decide +kernel
theorem dX8_splitPart_67 : decode cX8_splitPart 67 = .ok (.isub, 1) := by decide +kernel
theorem dX8_splitPart_68 : decode cX8_splitPart 68 = .ok (.istore 6, 2) := by decide +kernel
theorem dX8_splitPart_70 : decode cX8_splitPart 70 = .ok (.aload 4, 2) := by decide +kernel
theorem dX8_splitPart_72 : decode cX8_splitPart 72 = .ok (.getfield 124, 3) := by decide +kernel
theorem dX8_splitPart_75 : decode cX8_splitPart 75 = .ok (.iload_n 1, 1) := by decide +kernel
theorem dX8_splitPart_76 : decode cX8_splitPart 76 = .ok (.iaload, 1) := by decide +kernel
theorem dX8_splitPart_77 : decode cX8_splitPart 77 = .ok (.istore 7, 2) := by decide +kernel
theorem dX8_splitPart_79 : decode cX8_splitPart 79 = .ok (.aload_n 0, 1) := by decide +kernel
theorem dX8_splitPart_80 : decode cX8_splitPart 80 = .ok (.getfield 41, 3) := by decide +kernel
theorem dX8_splitPart_83 : decode cX8_splitPart 83 = .ok (.aload 4, 2) := by decide +kernel
theorem dX8_splitPart_85 : decode cX8_splitPart 85 = .ok (.iload 6, 2) := by decide +kernel
theorem dX8_splitPart_87 : decode cX8_splitPart 87 = .ok (.invokevirtual 224, 3) := by decide +kernel
theorem dX8_splitPart_90 : decode cX8_splitPart 90 = .ok (.aload_n 0, 1) := by decide +kernel
theorem dX8_splitPart_91 : decode cX8_splitPart 91 = .ok (.getfield 41, 3) := by decide +kernel
theorem dX8_splitPart_94 : decode cX8_splitPart 94 = .ok (.iload 5, 2) := by decide +kernel
theorem dX8_splitPart_96 : decode cX8_splitPart 96 = .ok (.iload 7, 2) := by decide +kernel
theorem dX8_splitPart_98 : decode cX8_splitPart 98 = .ok (.ineg, 1) := by decide +kernel
theorem dX8_splitPart_99 : decode cX8_splitPart 99 = .ok (.iload 6, 2) := by decide +kernel
theorem dX8_splitPart_101 : decode cX8_splitPart 101 = .ok (.imul, 1) := by decide +kernel
theorem dX8_splitPart_102 : decode cX8_splitPart 102 = .ok (.invokevirtual 228, 3) := by decide +kernel
theorem dX8_splitPart_105 : decode cX8_splitPart 105 = .ok (.aload_n 0, 1) := by decide +kernel
theorem dX8_splitPart_106 : decode cX8_splitPart 106 = .ok (.getfield 41, 3) := by decide +kernel
theorem dX8_splitPart_109 : decode cX8_splitPart 109 = .ok (.iload_n 2, 1) := by decide +kernel
theorem dX8_splitPart_110 : decode cX8_splitPart 110 = .ok (.iload 7, 2) := by decide +kernel
theorem dX8_splitPart_112 : decode cX8_splitPart 112 = .ok (.iload_n 3, 1) := by decide +kernel
theorem dX8_splitPart_113 : decode cX8_splitPart 113 = .ok (.iload 5, 2) := by decide +kernel
theorem dX8_splitPart_115 : decode cX8_splitPart 115 = .ok (.isub, 1) := by decide +kernel
theorem dX8_splitPart_116 : decode cX8_splitPart 116 = .ok (.imul, 1) := by decide +kernel
theorem dX8_splitPart_117 : decode cX8_splitPart 117 = .ok (.invokevirtual 228, 3) := by decide +kernel
theorem dX8_splitPart_120 : decode cX8_splitPart 120 = .ok (.aload_n 0, 1) := by decide +kernel
theorem dX8_splitPart_121 : decode cX8_splitPart 121 = .ok (.getfield 41, 3) := by decide +kernel
theorem dX8_splitPart_124 : decode cX8_splitPart 124 = .ok (.iload_n 3, 1) := by decide +kernel
theorem dX8_splitPart_125 : decode cX8_splitPart 125 = .ok (.iload 7, 2) := by decide +kernel
theorem dX8_splitPart_127 : decode cX8_splitPart 127 = .ok (.iload 5, 2) := by decide +kernel
theorem dX8_splitPart_129 : decode cX8_splitPart 129 = .ok (.iload_n 2, 1) := by decide +kernel
theorem dX8_splitPart_130 : decode cX8_splitPart 130 = .ok (.isub, 1) := by decide +kernel
theorem dX8_splitPart_131 : decode cX8_splitPart 131 = .ok (.imul, 1) := by decide +kernel
theorem dX8_splitPart_132 : decode cX8_splitPart 132 = .ok (.invokevirtual 228, 3) := by decide +kernel
theorem dX8_splitPart_135 : decode cX8_splitPart 135 = .ok (.aload_n 0, 1) := by decide +kernel
theorem dX8_splitPart_136 : decode cX8_splitPart 136 = .ok (.invokevirtual 232, 3) := by decide +kernel
theorem dX8_splitPart_139 : decode cX8_splitPart 139 = .ok (.ireturn, 1) := by decide +kernel
theorem dX8_joinWithNext_0 : decode cX8_joinWithNext 0 = .ok (.aload_n 0, 1) := by decide +kernel
theorem dX8_joinWithNext_1 : decode cX8_joinWithNext 1 = .ok (.getfield 10, 3) := by decide +kernel
theorem dX8_joinWithNext_4 : decode cX8_joinWithNext 4 = .ok (.getfield 117, 3) := by decide +kernel
theorem dX8_joinWithNext_7 : decode cX8_joinWithNext 7 = .ok (.astore_n 2, 1) := by decide +kernel
theorem dX8_joinWithNext_8 : decode cX8_joinWithNext 8 = .ok (.aload_n 2, 1) := by decide +kernel
theorem dX8_joinWithNext_9 : decode cX8_joinWithNext 9 = .ok (.iload_n 1, 1) := by decide +kernel
theorem dX8_joinWithNext_10 : decode cX8_joinWithNext 10 = .ok (.invokevirtual 121, 3) := by decide +kernel
theorem dX8_joinWithNext_13 : decode cX8_joinWithNext 13 = .ok (.ifCond .eq 13, 3) := by decide +kernel
theorem dX8_joinWithNext_16 : decode cX8_joinWithNext 16 = .ok (.aload_n 2, 1) := by decide +kernel
theorem dX8_joinWithNext_17 : decode cX8_joinWithNext 17 = .ok (.iload_n 1, 1) := by decide +kernel
theorem dX8_joinWithNext_18 : decode cX8_joinWithNext 18 = .ok (.iconst 1, 1) := by decide +kernel
theorem dX8_joinWithNext_19 : decode cX8_joinWithNext 19 = .ok (.iadd, 1) := by decide +kernel
theorem dX8_joinWithNext_20 : decode cX8_joinWithNext 20 = .ok (.invokevirtual 121, 3) := by decide +kernel
theorem dX8_joinWithNext_23 : decode cX8_joinWithNext 23 = .ok (.ifCond .ne 5, 3) := by decide +kernel
theorem dX8_joinWithNext_26 : decode cX8_joinWithNext 26 = .ok (.iconst (-1), 1) := by decide +kernel
theorem dX8_joinWithNext_27 : decode cX8_joinWithNext 27 = .ok (.ireturn, 1) := by decide +kernel
theorem dX8_joinWithNext_28 : decode cX8_joinWithNext 28 = .ok (.aload_n 2, 1) := by decide +kernel
theorem dX8_joinWithNext_29 : decode cX8_joinWithNext 29 = .ok (.getfield 124, 3) := by decide +kernel
theorem dX8_joinWithNext_32 : decode cX8_joinWithNext 32 = .ok (.iload_n 1, 1) := by decide +kernel
theorem dX8_joinWithNext_33 : decode cX8_joinWithNext 33 = .ok (.iaload, 1) := by decide +kernel
theorem dX8_joinWithNext_34 : decode cX8_joinWithNext 34 = .ok (.istore_n 3, 1) := by decide +kernel
theorem dX8_joinWithNext_35 : decode cX8_joinWithNext 35 = .ok (.aload_n 2, 1) := by decide +kernel
theorem dX8_joinWithNext_36 : decode cX8_joinWithNext 36 = .ok (.getfield 124, 3) := by decide +kernel
theorem dX8_joinWithNext_39 : decode cX8_joinWithNext 39 = .ok (.iload_n 1, 1) := by decide +kernel
theorem dX8_joinWithNext_40 : decode cX8_joinWithNext 40 = .ok (.iconst 1, 1) := by decide +kernel
theorem dX8_joinWithNext_41 : decode cX8_joinWithNext 41 = .ok (.iadd, 1) := by decide +kernel
theorem dX8_joinWithNext_42 : decode cX8_joinWithNext 42 = .ok (.iaload, 1) := by decide +kernel
theorem dX8_joinWithNext_43 : decode cX8_joinWithNext 43 = .ok (.istore 4, 2) := by decide +kernel
theorem dX8_joinWithNext_45 : decode cX8_joinWithNext 45 = .ok (.aload_n 2, 1) := by decide +kernel
theorem dX8_joinWithNext_46 : decode cX8_joinWithNext 46 = .ok (.getfield 127, 3) := by decide +kernel
theorem dX8_joinWithNext_49 : decode cX8_joinWithNext 49 = .ok (.iload_n 1, 1) := by decide +kernel
theorem dX8_joinWithNext_50 : decode cX8_joinWithNext 50 = .ok (.iaload, 1) := by decide +kernel
theorem dX8_joinWithNext_51 : decode cX8_joinWithNext 51 = .ok (.istore 5, 2) := by decide +kernel
theorem dX8_joinWithNext_53 : decode cX8_joinWithNext 53 = .ok (.aload_n 2, 1) := by decide +kernel
theorem dX8_joinWithNext_54 : decode cX8_joinWithNext 54 = .ok (.getfield 127, 3) := by decide +kernel
theorem dX8_joinWithNext_57 : decode cX8_joinWithNext 57 = .ok (.iload_n 1, 1) := by decide +kernel
theorem dX8_joinWithNext_58 : decode cX8_joinWithNext 58 = .ok (.iconst 1, 1) := by decide +kernel
theorem dX8_joinWithNext_59 : decode cX8_joinWithNext 59 = .ok (.iadd, 1) := by decide +kernel
theorem dX8_joinWithNext_60 : decode cX8_joinWithNext 60 = .ok (.iaload, 1) := by decide +kernel
theorem dX8_joinWithNext_61 : decode cX8_joinWithNext 61 = .ok (.istore 6, 2) := by decide +kernel
theorem dX8_joinWithNext_63 : decode cX8_joinWithNext 63 = .ok (.iload_n 3, 1) := by decide +kernel
theorem dX8_joinWithNext_64 : decode cX8_joinWithNext 64 = .ok (.iload 4, 2) := by decide +kernel
theorem dX8_joinWithNext_66 : decode cX8_joinWithNext 66 = .ok (.iadd, 1) := by decide +kernel
theorem dX8_joinWithNext_67 : decode cX8_joinWithNext 67 = .ok (.istore 7, 2) := by decide +kernel
theorem dX8_joinWithNext_69 : decode cX8_joinWithNext 69 = .ok (.iload_n 3, 1) := by decide +kernel
theorem dX8_joinWithNext_70 : decode cX8_joinWithNext 70 = .ok (.iload 5, 2) := by decide +kernel
theorem dX8_joinWithNext_72 : decode cX8_joinWithNext 72 = .ok (.imul, 1) := by decide +kernel
theorem dX8_joinWithNext_73 : decode cX8_joinWithNext 73 = .ok (.iload 4, 2) := by decide +kernel
theorem dX8_joinWithNext_75 : decode cX8_joinWithNext 75 = .ok (.iload 6, 2) := by decide +kernel
theorem dX8_joinWithNext_77 : decode cX8_joinWithNext 77 = .ok (.imul, 1) := by decide +kernel
theorem dX8_joinWithNext_78 : decode cX8_joinWithNext 78 = .ok (.iadd, 1) := by decide +kernel
theorem dX8_joinWithNext_79 : decode cX8_joinWithNext 79 = .ok (.istore 8, 2) := by decide +kernel
theorem dX8_joinWithNext_81 : decode cX8_joinWithNext 81 = .ok (.iload 7, 2) := by decide +kernel
theorem dX8_joinWithNext_83 : decode cX8_joinWithNext 83 = .ok (.ifCond .le 11, 3) := by decide +kernel
theorem dX8_joinWithNext_86 : decode cX8_joinWithNext 86 = .ok (.iload 8, 2) := by decide +kernel
theorem dX8_joinWithNext_88 : decode cX8_joinWithNext 88 = .ok (.iload 7, 2) := by decide +kernel
theorem dX8_joinWithNext_90 : decode cX8_joinWithNext 90 = .ok (.irem, 1) := by decide +kernel
theorem dX8_joinWithNext_91 : decode cX8_joinWithNext 91 = .ok (.ifCond .eq 6, 3) := by decide +kernel
theorem dX8_joinWithNext_94 : decode cX8_joinWithNext 94 = .ok (.bipush (-5), 2) := by decide +kernel
theorem dX8_joinWithNext_96 : decode cX8_joinWithNext 96 = .ok (.ireturn, 1) := by decide +kernel
theorem dX8_joinWithNext_97 : decode cX8_joinWithNext 97 = .ok (.aload_n 0, 1) := by decide +kernel
theorem dX8_joinWithNext_98 : decode cX8_joinWithNext 98 = .ok (.getfield 41, 3) := by decide +kernel
theorem dX8_joinWithNext_101 : decode cX8_joinWithNext 101 = .ok (.aload_n 2, 1) := by decide +kernel
theorem dX8_joinWithNext_102 : decode cX8_joinWithNext 102 = .ok (.iconst 1, 1) := by decide +kernel
theorem dX8_joinWithNext_103 : decode cX8_joinWithNext 103 = .ok (.invokevirtual 224, 3) := by decide +kernel
theorem dX8_joinWithNext_106 : decode cX8_joinWithNext 106 = .ok (.aload_n 0, 1) := by decide +kernel
theorem dX8_joinWithNext_107 : decode cX8_joinWithNext 107 = .ok (.getfield 41, 3) := by decide +kernel
theorem dX8_joinWithNext_110 : decode cX8_joinWithNext 110 = .ok (.iload 5, 2) := by decide +kernel
theorem dX8_joinWithNext_112 : decode cX8_joinWithNext 112 = .ok (.iload_n 3, 1) := by decide +kernel
theorem dX8_joinWithNext_113 : decode cX8_joinWithNext 113 = .ok (.ineg, 1) := by decide +kernel
theorem dX8_joinWithNext_114 : decode cX8_joinWithNext 114 = .ok (.invokevirtual 228, 3) := by decide +kernel
theorem dX8_joinWithNext_117 : decode cX8_joinWithNext 117 = .ok (.aload_n 0, 1) := by decide +kernel
theorem dX8_joinWithNext_118 : decode cX8_joinWithNext 118 = .ok (.getfield 41, 3) := by decide +kernel
theorem dX8_joinWithNext_121 : decode cX8_joinWithNext 121 = .ok (.iload 6, 2) := by decide +kernel
theorem dX8_joinWithNext_123 : decode cX8_joinWithNext 123 = .ok (.iload 4, 2) := by decide +kernel
theorem dX8_joinWithNext_125 : decode cX8_joinWithNext 125 = .ok (.ineg, 1) := by decide +kernel
theorem dX8_joinWithNext_126 : decode cX8_joinWithNext 126 = .ok (.invokevirtual 228, 3) := by decide +kernel
theorem dX8_joinWithNext_129 : decode cX8_joinWithNext 129 = .ok (.aload_n 0, 1) := by decide +kernel
theorem dX8_joinWithNext_130 : decode cX8_joinWithNext 130 = .ok (.getfield 41, 3) := by decide +kernel
theorem dX8_joinWithNext_133 : decode cX8_joinWithNext 133 = .ok (.iload 8, 2) := by decide +kernel
theorem dX8_joinWithNext_135 : decode cX8_joinWithNext 135 = .ok (.iload 7, 2) := by decide +kernel
theorem dX8_joinWithNext_137 : decode cX8_joinWithNext 137 = .ok (.idiv, 1) := by decide +kernel
theorem dX8_joinWithNext_138 : decode cX8_joinWithNext 138 = .ok (.iload 7, 2) := by decide +kernel
theorem dX8_joinWithNext_140 : decode cX8_joinWithNext 140 = .ok (.invokevirtual 228, 3) := by decide +kernel
theorem dX8_joinWithNext_143 : decode cX8_joinWithNext 143 = .ok (.aload_n 0, 1) := by decide +kernel
theorem dX8_joinWithNext_144 : decode cX8_joinWithNext 144 = .ok (.invokevirtual 232, 3) := by decide +kernel
theorem dX8_joinWithNext_147 : decode cX8_joinWithNext 147 = .ok (.ireturn, 1) := by decide +kernel
theorem dX8_takeBest_0 : decode cX8_takeBest 0 = .ok (.aload_n 0, 1) := by decide +kernel
theorem dX8_takeBest_1 : decode cX8_takeBest 1 = .ok (.getfield 48, 3) := by decide +kernel
theorem dX8_takeBest_4 : decode cX8_takeBest 4 = .ok (.aload_n 0, 1) := by decide +kernel
theorem dX8_takeBest_5 : decode cX8_takeBest 5 = .ok (.getfield 10, 3) := by decide +kernel
theorem dX8_takeBest_8 : decode cX8_takeBest 8 = .ok (.getfield 73, 3) := by decide +kernel
theorem dX8_takeBest_11 : decode cX8_takeBest 11 = .ok (.invokevirtual 235, 3) := by decide +kernel
theorem dX8_takeBest_14 : decode cX8_takeBest 14 = .ok (.aload_n 0, 1) := by decide +kernel
theorem dX8_takeBest_15 : decode cX8_takeBest 15 = .ok (.getfield 48, 3) := by decide +kernel
theorem dX8_takeBest_18 : decode cX8_takeBest 18 = .ok (.aload_n 0, 1) := by decide +kernel
theorem dX8_takeBest_19 : decode cX8_takeBest 19 = .ok (.getfield 10, 3) := by decide +kernel
theorem dX8_takeBest_22 : decode cX8_takeBest 22 = .ok (.getfield 158, 3) := by decide +kernel
theorem dX8_takeBest_25 : decode cX8_takeBest 25 = .ok (.invokevirtual 239, 3) := by decide +kernel
theorem dX8_takeBest_28 : decode cX8_takeBest 28 = .ok (.aload_n 0, 1) := by decide +kernel
theorem dX8_takeBest_29 : decode cX8_takeBest 29 = .ok (.getfield 41, 3) := by decide +kernel
theorem dX8_takeBest_32 : decode cX8_takeBest 32 = .ok (.invokevirtual 242, 3) := by decide +kernel
theorem dX8_takeBest_35 : decode cX8_takeBest 35 = .ok (.aload_n 0, 1) := by decide +kernel
theorem dX8_takeBest_36 : decode cX8_takeBest 36 = .ok (.getfield 41, 3) := by decide +kernel
theorem dX8_takeBest_39 : decode cX8_takeBest 39 = .ok (.aload_n 0, 1) := by decide +kernel
theorem dX8_takeBest_40 : decode cX8_takeBest 40 = .ok (.getfield 48, 3) := by decide +kernel
theorem dX8_takeBest_43 : decode cX8_takeBest 43 = .ok (.getfield 187, 3) := by decide +kernel
theorem dX8_takeBest_46 : decode cX8_takeBest 46 = .ok (.aload_n 0, 1) := by decide +kernel
theorem dX8_takeBest_47 : decode cX8_takeBest 47 = .ok (.getfield 48, 3) := by decide +kernel
theorem dX8_takeBest_50 : decode cX8_takeBest 50 = .ok (.getfield 193, 3) := by decide +kernel
theorem dX8_takeBest_53 : decode cX8_takeBest 53 = .ok (.invokevirtual 228, 3) := by decide +kernel
theorem dX8_takeBest_56 : decode cX8_takeBest 56 = .ok (.aload_n 0, 1) := by decide +kernel
theorem dX8_takeBest_57 : decode cX8_takeBest 57 = .ok (.getfield 41, 3) := by decide +kernel
theorem dX8_takeBest_60 : decode cX8_takeBest 60 = .ok (.aload_n 0, 1) := by decide +kernel
theorem dX8_takeBest_61 : decode cX8_takeBest 61 = .ok (.getfield 48, 3) := by decide +kernel
theorem dX8_takeBest_64 : decode cX8_takeBest 64 = .ok (.getfield 190, 3) := by decide +kernel
theorem dX8_takeBest_67 : decode cX8_takeBest 67 = .ok (.aload_n 0, 1) := by decide +kernel
theorem dX8_takeBest_68 : decode cX8_takeBest 68 = .ok (.getfield 48, 3) := by decide +kernel
theorem dX8_takeBest_71 : decode cX8_takeBest 71 = .ok (.getfield 196, 3) := by decide +kernel
theorem dX8_takeBest_74 : decode cX8_takeBest 74 = .ok (.invokevirtual 228, 3) := by decide +kernel
theorem dX8_takeBest_77 : decode cX8_takeBest 77 = .ok (.aload_n 0, 1) := by decide +kernel
theorem dX8_takeBest_78 : decode cX8_takeBest 78 = .ok (.invokevirtual 232, 3) := by decide +kernel
theorem dX8_takeBest_81 : decode cX8_takeBest 81 = .ok (.ireturn, 1) := by decide +kernel
theorem dX8_takeMix_0 : decode cX8_takeMix 0 = .ok (.aload_n 0, 1) := by decide +kernel
theorem dX8_takeMix_1 : decode cX8_takeMix 1 = .ok (.getfield 41, 3) := by decide +kernel
theorem dX8_takeMix_4 : decode cX8_takeMix 4 = .ok (.invokevirtual 250, 3) := by decide +kernel
theorem dX8_takeMix_7 : decode cX8_takeMix 7 = .ok (.aload_n 0, 1) := by decide +kernel
theorem dX8_takeMix_8 : decode cX8_takeMix 8 = .ok (.getfield 41, 3) := by decide +kernel
theorem dX8_takeMix_11 : decode cX8_takeMix 11 = .ok (.invokevirtual 253, 3) := by decide +kernel
theorem dX8_takeMix_14 : decode cX8_takeMix 14 = .ok (.ifCond .ne 6, 3) := by decide +kernel
theorem dX8_takeMix_17 : decode cX8_takeMix 17 = .ok (.bipush (-4), 2) := by decide +kernel
theorem dX8_takeMix_19 : decode cX8_takeMix 19 = .ok (.ireturn, 1) := by decide +kernel
theorem dX8_takeMix_20 : decode cX8_takeMix 20 = .ok (.aload_n 0, 1) := by decide +kernel
theorem dX8_takeMix_21 : decode cX8_takeMix 21 = .ok (.getfield 41, 3) := by decide +kernel
theorem dX8_takeMix_24 : decode cX8_takeMix 24 = .ok (.aload_n 0, 1) := by decide +kernel
theorem dX8_takeMix_25 : decode cX8_takeMix 25 = .ok (.getfield 10, 3) := by decide +kernel
theorem dX8_takeMix_28 : decode cX8_takeMix 28 = .ok (.getfield 117, 3) := by decide +kernel
theorem dX8_takeMix_31 : decode cX8_takeMix 31 = .ok (.invokevirtual 259, 3) := by decide +kernel
theorem dX8_takeMix_34 : decode cX8_takeMix 34 = .ok (.aload_n 0, 1) := by decide +kernel
theorem dX8_takeMix_35 : decode cX8_takeMix 35 = .ok (.getfield 10, 3) := by decide +kernel
theorem dX8_takeMix_38 : decode cX8_takeMix 38 = .ok (.getfield 117, 3) := by decide +kernel
theorem dX8_takeMix_41 : decode cX8_takeMix 41 = .ok (.getfield 164, 3) := by decide +kernel
theorem dX8_takeMix_44 : decode cX8_takeMix 44 = .ok (.ireturn, 1) := by decide +kernel
theorem dX8_aimAt_0 : decode cX8_aimAt 0 = .ok (.aload_n 0, 1) := by decide +kernel
theorem dX8_aimAt_1 : decode cX8_aimAt 1 = .ok (.getfield 48, 3) := by decide +kernel
theorem dX8_aimAt_4 : decode cX8_aimAt 4 = .ok (.aload_n 0, 1) := by decide +kernel
theorem dX8_aimAt_5 : decode cX8_aimAt 5 = .ok (.getfield 10, 3) := by decide +kernel
theorem dX8_aimAt_8 : decode cX8_aimAt 8 = .ok (.getfield 73, 3) := by decide +kernel
theorem dX8_aimAt_11 : decode cX8_aimAt 11 = .ok (.invokevirtual 235, 3) := by decide +kernel
theorem dX8_aimAt_14 : decode cX8_aimAt 14 = .ok (.aload_n 0, 1) := by decide +kernel
theorem dX8_aimAt_15 : decode cX8_aimAt 15 = .ok (.getfield 48, 3) := by decide +kernel
theorem dX8_aimAt_18 : decode cX8_aimAt 18 = .ok (.iload_n 1, 1) := by decide +kernel
theorem dX8_aimAt_19 : decode cX8_aimAt 19 = .ok (.invokevirtual 239, 3) := by decide +kernel
theorem dX8_aimAt_22 : decode cX8_aimAt 22 = .ok (.return_, 1) := by decide +kernel
theorem dX8_meanIsEnvelope_0 : decode cX8_meanIsEnvelope 0 = .ok (.aload_n 0, 1) := by decide +kernel
theorem dX8_meanIsEnvelope_1 : decode cX8_meanIsEnvelope 1 = .ok (.getfield 10, 3) := by decide +kernel
theorem dX8_meanIsEnvelope_4 : decode cX8_meanIsEnvelope 4 = .ok (.aload_n 0, 1) := by decide +kernel
theorem dX8_meanIsEnvelope_5 : decode cX8_meanIsEnvelope 5 = .ok (.getfield 55, 3) := by decide +kernel
theorem dX8_meanIsEnvelope_8 : decode cX8_meanIsEnvelope 8 = .ok (.invokevirtual 142, 3) := by decide +kernel
theorem dX8_meanIsEnvelope_11 : decode cX8_meanIsEnvelope 11 = .ok (.aload_n 0, 1) := by decide +kernel
theorem dX8_meanIsEnvelope_12 : decode cX8_meanIsEnvelope 12 = .ok (.aload_n 0, 1) := by decide +kernel
theorem dX8_meanIsEnvelope_13 : decode cX8_meanIsEnvelope 13 = .ok (.getfield 10, 3) := by decide +kernel
theorem dX8_meanIsEnvelope_16 : decode cX8_meanIsEnvelope 16 = .ok (.getfield 158, 3) := by decide +kernel
theorem dX8_meanIsEnvelope_19 : decode cX8_meanIsEnvelope 19 = .ok (.invokevirtual 180, 3) := by decide +kernel
theorem dX8_meanIsEnvelope_22 : decode cX8_meanIsEnvelope 22 = .ok (.aload_n 0, 1) := by decide +kernel
theorem dX8_meanIsEnvelope_23 : decode cX8_meanIsEnvelope 23 = .ok (.getfield 48, 3) := by decide +kernel
theorem dX8_meanIsEnvelope_26 : decode cX8_meanIsEnvelope 26 = .ok (.aload_n 0, 1) := by decide +kernel
theorem dX8_meanIsEnvelope_27 : decode cX8_meanIsEnvelope 27 = .ok (.getfield 59, 3) := by decide +kernel
theorem dX8_meanIsEnvelope_30 : decode cX8_meanIsEnvelope 30 = .ok (.invokevirtual 184, 3) := by decide +kernel
theorem dX8_meanIsEnvelope_33 : decode cX8_meanIsEnvelope 33 = .ok (.aload_n 0, 1) := by decide +kernel
theorem dX8_meanIsEnvelope_34 : decode cX8_meanIsEnvelope 34 = .ok (.getfield 55, 3) := by decide +kernel
theorem dX8_meanIsEnvelope_37 : decode cX8_meanIsEnvelope 37 = .ok (.getfield 146, 3) := by decide +kernel
theorem dX8_meanIsEnvelope_40 : decode cX8_meanIsEnvelope 40 = .ok (.aload_n 0, 1) := by decide +kernel
theorem dX8_meanIsEnvelope_41 : decode cX8_meanIsEnvelope 41 = .ok (.getfield 59, 3) := by decide +kernel
theorem dX8_meanIsEnvelope_44 : decode cX8_meanIsEnvelope 44 = .ok (.getfield 146, 3) := by decide +kernel
theorem dX8_meanIsEnvelope_47 : decode cX8_meanIsEnvelope 47 = .ok (.if_icmp .ne 24, 3) := by decide +kernel
theorem dX8_meanIsEnvelope_50 : decode cX8_meanIsEnvelope 50 = .ok (.aload_n 0, 1) := by decide +kernel
theorem dX8_meanIsEnvelope_51 : decode cX8_meanIsEnvelope 51 = .ok (.getfield 55, 3) := by decide +kernel
theorem dX8_meanIsEnvelope_54 : decode cX8_meanIsEnvelope 54 = .ok (.getfield 151, 3) := by decide +kernel
theorem dX8_meanIsEnvelope_57 : decode cX8_meanIsEnvelope 57 = .ok (.aload_n 0, 1) := by decide +kernel
theorem dX8_meanIsEnvelope_58 : decode cX8_meanIsEnvelope 58 = .ok (.getfield 59, 3) := by decide +kernel
theorem dX8_meanIsEnvelope_61 : decode cX8_meanIsEnvelope 61 = .ok (.getfield 151, 3) := by decide +kernel
theorem dX8_meanIsEnvelope_64 : decode cX8_meanIsEnvelope 64 = .ok (.if_icmp .ne 7, 3) := by decide +kernel
theorem dX8_meanIsEnvelope_67 : decode cX8_meanIsEnvelope 67 = .ok (.iconst 1, 1) := by decide +kernel
theorem dX8_meanIsEnvelope_68 : decode cX8_meanIsEnvelope 68 = .ok (.goto 4, 3) := by decide +kernel
theorem dX8_meanIsEnvelope_71 : decode cX8_meanIsEnvelope 71 = .ok (.iconst 0, 1) := by decide +kernel
theorem dX8_meanIsEnvelope_72 : decode cX8_meanIsEnvelope 72 = .ok (.ireturn, 1) := by decide +kernel
theorem dX8_commonDivisor_0 : decode cX8_commonDivisor 0 = .ok (.iload_n 0, 1) := by decide +kernel
theorem dX8_commonDivisor_1 : decode cX8_commonDivisor 1 = .ok (.invokestatic 288, 3) := by decide +kernel
theorem dX8_commonDivisor_4 : decode cX8_commonDivisor 4 = .ok (.istore_n 2, 1) := by decide +kernel
theorem dX8_commonDivisor_5 : decode cX8_commonDivisor 5 = .ok (.iload_n 1, 1) := by decide +kernel
theorem dX8_commonDivisor_6 : decode cX8_commonDivisor 6 = .ok (.invokestatic 288, 3) := by decide +kernel
theorem dX8_commonDivisor_9 : decode cX8_commonDivisor 9 = .ok (.istore_n 3, 1) := by decide +kernel
theorem dX8_commonDivisor_10 : decode cX8_commonDivisor 10 = .ok (.iconst 0, 1) := by decide +kernel
theorem dX8_commonDivisor_11 : decode cX8_commonDivisor 11 = .ok (.istore 4, 2) := by decide +kernel
theorem dX8_commonDivisor_13 : decode cX8_commonDivisor 13 = .ok (.iload 4, 2) := by decide +kernel
theorem dX8_commonDivisor_15 : decode cX8_commonDivisor 15 = .ok (.bipush 64, 2) := by decide +kernel
theorem dX8_commonDivisor_17 : decode cX8_commonDivisor 17 = .ok (.if_icmp .ge 23, 3) := by decide +kernel
theorem dX8_commonDivisor_20 : decode cX8_commonDivisor 20 = .ok (.iload_n 3, 1) := by decide +kernel
theorem dX8_commonDivisor_21 : decode cX8_commonDivisor 21 = .ok (.ifCond .le 19, 3) := by decide +kernel
theorem dX8_commonDivisor_24 : decode cX8_commonDivisor 24 = .ok (.iload_n 2, 1) := by decide +kernel
theorem dX8_commonDivisor_25 : decode cX8_commonDivisor 25 = .ok (.iload_n 3, 1) := by decide +kernel
theorem dX8_commonDivisor_26 : decode cX8_commonDivisor 26 = .ok (.irem, 1) := by decide +kernel
theorem dX8_commonDivisor_27 : decode cX8_commonDivisor 27 = .ok (.istore 5, 2) := by decide +kernel
theorem dX8_commonDivisor_29 : decode cX8_commonDivisor 29 = .ok (.iload_n 3, 1) := by decide +kernel
theorem dX8_commonDivisor_30 : decode cX8_commonDivisor 30 = .ok (.istore_n 2, 1) := by decide +kernel
theorem dX8_commonDivisor_31 : decode cX8_commonDivisor 31 = .ok (.iload 5, 2) := by decide +kernel
theorem dX8_commonDivisor_33 : decode cX8_commonDivisor 33 = .ok (.istore_n 3, 1) := by decide +kernel
theorem dX8_commonDivisor_34 : decode cX8_commonDivisor 34 = .ok (.iinc 4 1, 3) := by decide +kernel
theorem dX8_commonDivisor_37 : decode cX8_commonDivisor 37 = .ok (.goto (-24), 3) := by decide +kernel
theorem dX8_commonDivisor_40 : decode cX8_commonDivisor 40 = .ok (.iload_n 2, 1) := by decide +kernel
theorem dX8_commonDivisor_41 : decode cX8_commonDivisor 41 = .ok (.ireturn, 1) := by decide +kernel
theorem dJ9_abs_0f7a4_0 : decode cJ9_abs_0f7a4 0 = .ok (.iload_n 0, 1) := by decide +kernel
theorem dJ9_abs_0f7a4_1 : decode cJ9_abs_0f7a4 1 = .ok (.ifCond .ge 8, 3) := by decide +kernel
theorem dJ9_abs_0f7a4_4 : decode cJ9_abs_0f7a4 4 = .ok (.iload_n 0, 1) := by decide +kernel
theorem dJ9_abs_0f7a4_5 : decode cJ9_abs_0f7a4 5 = .ok (.ineg, 1) := by decide +kernel
theorem dJ9_abs_0f7a4_6 : decode cJ9_abs_0f7a4 6 = .ok (.goto 4, 3) := by decide +kernel
theorem dJ9_abs_0f7a4_9 : decode cJ9_abs_0f7a4 9 = .ok (.iload_n 0, 1) := by decide +kernel
theorem dJ9_abs_0f7a4_10 : decode cJ9_abs_0f7a4 10 = .ok (.ireturn, 1) := by decide +kernel
theorem dJ9_max_7cf53_0 : decode cJ9_max_7cf53 0 = .ok (.iload_n 0, 1) := by decide +kernel
theorem dJ9_max_7cf53_1 : decode cJ9_max_7cf53 1 = .ok (.iload_n 1, 1) := by decide +kernel
theorem dJ9_max_7cf53_2 : decode cJ9_max_7cf53 2 = .ok (.if_icmp .lt 7, 3) := by decide +kernel
theorem dJ9_max_7cf53_5 : decode cJ9_max_7cf53 5 = .ok (.iload_n 0, 1) := by decide +kernel
theorem dJ9_max_7cf53_6 : decode cJ9_max_7cf53 6 = .ok (.goto 4, 3) := by decide +kernel
theorem dJ9_max_7cf53_9 : decode cJ9_max_7cf53 9 = .ok (.iload_n 1, 1) := by decide +kernel
theorem dJ9_max_7cf53_10 : decode cJ9_max_7cf53 10 = .ok (.ireturn, 1) := by decide +kernel
theorem dJ9_min_7cf53_0 : decode cJ9_min_7cf53 0 = .ok (.iload_n 0, 1) := by decide +kernel
theorem dJ9_min_7cf53_1 : decode cJ9_min_7cf53 1 = .ok (.iload_n 1, 1) := by decide +kernel
theorem dJ9_min_7cf53_2 : decode cJ9_min_7cf53 2 = .ok (.if_icmp .gt 7, 3) := by decide +kernel
theorem dJ9_min_7cf53_5 : decode cJ9_min_7cf53 5 = .ok (.iload_n 0, 1) := by decide +kernel
theorem dJ9_min_7cf53_6 : decode cJ9_min_7cf53 6 = .ok (.goto 4, 3) := by decide +kernel
theorem dJ9_min_7cf53_9 : decode cJ9_min_7cf53 9 = .ok (.iload_n 1, 1) := by decide +kernel
theorem dJ9_min_7cf53_10 : decode cJ9_min_7cf53 10 = .ok (.ireturn, 1) := by decide +kernel
