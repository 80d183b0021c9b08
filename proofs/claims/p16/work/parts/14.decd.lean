theorem dX5_init_0 : decode cX5_init 0 = .ok (.aload_n 0, 1) := by decide +kernel
theorem dX5_init_1 : decode cX5_init 1 = .ok (.invokespecial 1, 3) := by decide +kernel
theorem dX5_init_4 : decode cX5_init 4 = .ok (.aload_n 0, 1) := by decide +kernel
theorem dX5_init_5 : decode cX5_init 5 = .ok (.iconst 4, 1) := by decide +kernel
theorem dX5_init_6 : decode cX5_init 6 = .ok (.newarray .int, 2) := by decide +kernel
theorem dX5_init_8 : decode cX5_init 8 = .ok (.putfield 7, 3) := by decide +kernel
theorem dX5_init_11 : decode cX5_init 11 = .ok (.aload_n 0, 1) := by decide +kernel
theorem dX5_init_12 : decode cX5_init 12 = .ok (.iconst 4, 1) := by decide +kernel
theorem dX5_init_13 : decode cX5_init 13 = .ok (.newarray .int, 2) := by decide +kernel
theorem dX5_init_15 : decode cX5_init 15 = .ok (.putfield 13, 3) := by decide +kernel
theorem dX5_init_18 : decode cX5_init 18 = .ok (.aload_n 0, 1) := by decide +kernel
theorem dX5_init_19 : decode cX5_init 19 = .ok (.iconst 4, 1) := by decide +kernel
theorem dX5_init_20 : decode cX5_init 20 = .ok (.newarray .int, 2) := by decide +kernel
theorem dX5_init_22 : decode cX5_init 22 = .ok (.putfield 16, 3) := by decide +kernel
theorem dX5_init_25 : decode cX5_init 25 = .ok (.aload_n 0, 1) := by decide +kernel
theorem dX5_init_26 : decode cX5_init 26 = .ok (.iconst 4, 1) := by decide +kernel
theorem dX5_init_27 : decode cX5_init 27 = .ok (.newarray .int, 2) := by decide +kernel
theorem dX5_init_29 : decode cX5_init 29 = .ok (.putfield 19, 3) := by decide +kernel
theorem dX5_init_32 : decode cX5_init 32 = .ok (.aload_n 0, 1) := by decide +kernel
theorem dX5_init_33 : decode cX5_init 33 = .ok (.iconst 4, 1) := by decide +kernel
theorem dX5_init_34 : decode cX5_init 34 = .ok (.newarray .int, 2) := by decide +kernel
theorem dX5_init_36 : decode cX5_init 36 = .ok (.putfield 22, 3) := by decide +kernel
theorem dX5_init_39 : decode cX5_init 39 = .ok (.aload_n 0, 1) := by decide +kernel
theorem dX5_init_40 : decode cX5_init 40 = .ok (.iconst 4, 1) := by decide +kernel
theorem dX5_init_41 : decode cX5_init 41 = .ok (.newarray .int, 2) := by decide +kernel
theorem dX5_init_43 : decode cX5_init 43 = .ok (.putfield 25, 3) := by decide +kernel
theorem dX5_init_46 : decode cX5_init 46 = .ok (.aload_n 0, 1) := by decide +kernel
theorem dX5_init_47 : decode cX5_init 47 = .ok (.bipush 32, 2) := by decide +kernel
theorem dX5_init_49 : decode cX5_init 49 = .ok (.newarray .int, 2) := by decide +kernel
theorem dX5_init_51 : decode cX5_init 51 = .ok (.putfield 28, 3) := by decide +kernel
theorem dX5_init_54 : decode cX5_init 54 = .ok (.aload_n 0, 1) := by decide +kernel
theorem dX5_init_55 : decode cX5_init 55 = .ok (.bipush 32, 2) := by decide +kernel
theorem dX5_init_57 : decode cX5_init 57 = .ok (.newarray .int, 2) := by decide +kernel
theorem dX5_init_59 : decode cX5_init 59 = .ok (.putfield 31, 3) := by decide +kernel
theorem dX5_init_62 : decode cX5_init 62 = .ok (.aload_n 0, 1) := by decide +kernel
theorem dX5_init_63 : decode cX5_init 63 = .ok (.sipush 512, 3) := by decide +kernel
theorem dX5_init_66 : decode cX5_init 66 = .ok (.newarray .int, 2) := by decide +kernel
theorem dX5_init_68 : decode cX5_init 68 = .ok (.putfield 34, 3) := by decide +kernel
theorem dX5_init_71 : decode cX5_init 71 = .ok (.aload_n 0, 1) := by decide +kernel
theorem dX5_init_72 : decode cX5_init 72 = .ok (.sipush 512, 3) := by decide +kernel
theorem dX5_init_75 : decode cX5_init 75 = .ok (.newarray .int, 2) := by decide +kernel
theorem dX5_init_77 : decode cX5_init 77 = .ok (.putfield 37, 3) := by decide +kernel
theorem dX5_init_80 : decode cX5_init 80 = .ok (.aload_n 0, 1) := by decide +kernel
theorem dX5_init_81 : decode cX5_init 81 = .ok (.sipush 192, 3) := by decide +kernel
theorem dX5_init_84 : decode cX5_init 84 = .ok (.newarray .boolean, 2) := by decide +kernel
theorem dX5_init_86 : decode cX5_init 86 = .ok (.putfield 40, 3) := by decide +kernel
theorem dX5_init_89 : decode cX5_init 89 = .ok (.aload_n 0, 1) := by decide +kernel
theorem dX5_init_90 : decode cX5_init 90 = .ok (.sipush 192, 3) := by decide +kernel
theorem dX5_init_93 : decode cX5_init 93 = .ok (.newarray .int, 2) := by decide +kernel
theorem dX5_init_95 : decode cX5_init 95 = .ok (.putfield 44, 3) := by decide +kernel
theorem dX5_init_98 : decode cX5_init 98 = .ok (.aload_n 0, 1) := by decide +kernel
theorem dX5_init_99 : decode cX5_init 99 = .ok (.bipush 40, 2) := by decide +kernel
theorem dX5_init_101 : decode cX5_init 101 = .ok (.newarray .int, 2) := by decide +kernel
theorem dX5_init_103 : decode cX5_init 103 = .ok (.putfield 47, 3) := by decide +kernel
theorem dX5_init_106 : decode cX5_init 106 = .ok (.aload_n 0, 1) := by decide +kernel
theorem dX5_init_107 : decode cX5_init 107 = .ok (.bipush 40, 2) := by decide +kernel
theorem dX5_init_109 : decode cX5_init 109 = .ok (.newarray .int, 2) := by decide +kernel
theorem dX5_init_111 : decode cX5_init 111 = .ok (.putfield 50, 3) := by decide +kernel
theorem dX5_init_114 : decode cX5_init 114 = .ok (.aload_n 0, 1) := by decide +kernel
theorem dX5_init_115 : decode cX5_init 115 = .ok (.bipush 40, 2) := by decide +kernel
theorem dX5_init_117 : decode cX5_init 117 = .ok (.newarray .int, 2) := by decide +kernel
theorem dX5_init_119 : decode cX5_init 119 = .ok (.putfield 53, 3) := by decide +kernel
theorem dX5_init_122 : decode cX5_init 122 = .ok (.aload_n 0, 1) := by decide +kernel
theorem dX5_init_123 : decode cX5_init 123 = .ok (.bipush 40, 2) := by decide +kernel
theorem dX5_init_125 : decode cX5_init 125 = .ok (.newarray .int, 2) := by decide +kernel
theorem dX5_init_127 : decode cX5_init 127 = .ok (.putfield 56, 3) := by decide +kernel
theorem dX5_init_130 : decode cX5_init 130 = .ok (.aload_n 0, 1) := by decide +kernel
theorem dX5_init_131 : decode cX5_init 131 = .ok (.iload_n 1, 1) := by decide +kernel
theorem dX5_init_132 : decode cX5_init 132 = .ok (.iconst 1, 1) := by decide +kernel
theorem dX5_init_133 : decode cX5_init 133 = .ok (.if_icmp .ge 7, 3) := by decide +kernel
theorem dX5_init_136 : decode cX5_init 136 = .ok (.iconst 1, 1) := by decide +kernel
theorem dX5_init_137 : decode cX5_init 137 = .ok (.goto 13, 3) := by decide +kernel
theorem dX5_init_140 : decode cX5_init 140 = .ok (.iload_n 1, 1) := by decide +kernel
theorem dX5_init_141 : decode cX5_init 141 = .ok (.iconst 4, 1) := by decide +kernel
theorem dX5_init_142 : decode cX5_init 142 = .ok (.if_icmp .le 7, 3) := by decide +kernel
theorem dX5_init_145 : decode cX5_init 145 = .ok (.iconst 4, 1) := by decide +kernel
theorem dX5_init_146 : decode cX5_init 146 = .ok (.goto 4, 3) := by decide +kernel
theorem dX5_init_149 : decode cX5_init 149 = .ok (.iload_n 1, 1) := by decide +kernel
theorem dX5_init_150 : decode cX5_init 150 = .ok (.putfield 59, 3) := by decide +kernel
theorem dX5_init_153 : decode cX5_init 153 = .ok (.aload_n 0, 1) := by decide +kernel
theorem dX5_init_154 : decode cX5_init 154 = .ok (.invokevirtual 63, 3) := by decide +kernel
theorem dX5_init_157 : decode cX5_init 157 = .ok (.return_, 1) := by decide +kernel
theorem dX5_thrown_0 : decode cX5_thrown 0 = .ok (.aload_n 0, 1) := by decide +kernel
theorem dX5_thrown_1 : decode cX5_thrown 1 = .ok (.getfield 66, 3) := by decide +kernel
theorem dX5_thrown_4 : decode cX5_thrown 4 = .ok (.ireturn, 1) := by decide +kernel
theorem dX5_begin_0 : decode cX5_begin 0 = .ok (.iconst 0, 1) := by decide +kernel
theorem dX5_begin_1 : decode cX5_begin 1 = .ok (.istore_n 1, 1) := by decide +kernel
theorem dX5_begin_2 : decode cX5_begin 2 = .ok (.iload_n 1, 1) := by decide +kernel
theorem dX5_begin_3 : decode cX5_begin 3 = .ok (.iconst 4, 1) := by decide +kernel
theorem dX5_begin_4 : decode cX5_begin 4 = .ok (.if_icmp .ge 55, 3) := by decide +kernel
theorem dX5_begin_7 : decode cX5_begin 7 = .ok (.aload_n 0, 1) := by decide +kernel
theorem dX5_begin_8 : decode cX5_begin 8 = .ok (.getfield 7, 3) := by decide +kernel
theorem dX5_begin_11 : decode cX5_begin 11 = .ok (.iload_n 1, 1) := by decide +kernel
theorem dX5_begin_12 : decode cX5_begin 12 = .ok (.iconst 2, 1) := by decide +kernel
theorem dX5_begin_13 : decode cX5_begin 13 = .ok (.iastore, 1) := by decide +kernel
theorem dX5_begin_14 : decode cX5_begin 14 = .ok (.aload_n 0, 1) := by decide +kernel
theorem dX5_begin_15 : decode cX5_begin 15 = .ok (.getfield 13, 3) := by decide +kernel
theorem dX5_begin_18 : decode cX5_begin 18 = .ok (.iload_n 1, 1) := by decide +kernel
theorem dX5_begin_19 : decode cX5_begin 19 = .ok (.bipush 20, 2) := by decide +kernel
theorem dX5_begin_21 : decode cX5_begin 21 = .ok (.iastore, 1) := by decide +kernel
theorem dX5_begin_22 : decode cX5_begin 22 = .ok (.aload_n 0, 1) := by decide +kernel
theorem dX5_begin_23 : decode cX5_begin 23 = .ok (.getfield 16, 3) := by decide +kernel
theorem dX5_begin_26 : decode cX5_begin 26 = .ok (.iload_n 1, 1) := by decide +kernel
theorem dX5_begin_27 : decode cX5_begin 27 = .ok (.iconst 4, 1) := by decide +kernel
theorem dX5_begin_28 : decode cX5_begin 28 = .ok (.iastore, 1) := by decide +kernel
theorem dX5_begin_29 : decode cX5_begin 29 = .ok (.aload_n 0, 1) := by decide +kernel
theorem dX5_begin_30 : decode cX5_begin 30 = .ok (.getfield 19, 3) := by decide +kernel
theorem dX5_begin_33 : decode cX5_begin 33 = .ok (.iload_n 1, 1) := by decide +kernel
theorem dX5_begin_34 : decode cX5_begin 34 = .ok (.sipush 500, 3) := by decide +kernel
theorem dX5_begin_37 : decode cX5_begin 37 = .ok (.iastore, 1) := by decide +kernel
theorem dX5_begin_38 : decode cX5_begin 38 = .ok (.aload_n 0, 1) := by decide +kernel
theorem dX5_begin_39 : decode cX5_begin 39 = .ok (.getfield 22, 3) := by decide +kernel
theorem dX5_begin_42 : decode cX5_begin 42 = .ok (.iload_n 1, 1) := by decide +kernel
theorem dX5_begin_43 : decode cX5_begin 43 = .ok (.iconst 0, 1) := by decide +kernel
theorem dX5_begin_44 : decode cX5_begin 44 = .ok (.iastore, 1) := by decide +kernel
theorem dX5_begin_45 : decode cX5_begin 45 = .ok (.aload_n 0, 1) := by decide +kernel
theorem dX5_begin_46 : decode cX5_begin 46 = .ok (.getfield 25, 3) := by decide +kernel
theorem dX5_begin_49 : decode cX5_begin 49 = .ok (.iload_n 1, 1) := by decide +kernel
theorem dX5_begin_50 : decode cX5_begin 50 = .ok (.bipush 20, 2) := by decide +kernel
theorem dX5_begin_52 : decode cX5_begin 52 = .ok (.iastore, 1) := by decide +kernel
theorem dX5_begin_53 : decode cX5_begin 53 = .ok (.iinc 1 1, 3) := by decide +kernel
theorem dX5_begin_56 : decode cX5_begin 56 = .ok (.goto (-54), 3) := by decide +kernel
theorem dX5_begin_59 : decode cX5_begin 59 = .ok (.iconst 0, 1) := by decide +kernel
theorem dX5_begin_60 : decode cX5_begin 60 = .ok (.istore_n 1, 1) := by decide +kernel
theorem dX5_begin_61 : decode cX5_begin 61 = .ok (.iload_n 1, 1) := by decide +kernel
theorem dX5_begin_62 : decode cX5_begin 62 = .ok (.bipush 32, 2) := by decide +kernel
theorem dX5_begin_64 : decode cX5_begin 64 = .ok (.if_icmp .ge 23, 3) := by decide +kernel
theorem dX5_begin_67 : decode cX5_begin 67 = .ok (.aload_n 0, 1) := by decide +kernel
theorem dX5_begin_68 : decode cX5_begin 68 = .ok (.getfield 28, 3) := by decide +kernel
theorem dX5_begin_71 : decode cX5_begin 71 = .ok (.iload_n 1, 1) := by decide +kernel
theorem dX5_begin_72 : decode cX5_begin 72 = .ok (.iconst (-1), 1) := by decide +kernel
theorem dX5_begin_73 : decode cX5_begin 73 = .ok (.iastore, 1) := by decide +kernel
theorem dX5_begin_74 : decode cX5_begin 74 = .ok (.aload_n 0, 1) := by decide +kernel
theorem dX5_begin_75 : decode cX5_begin 75 = .ok (.getfield 31, 3) := by decide +kernel
theorem dX5_begin_78 : decode cX5_begin 78 = .ok (.iload_n 1, 1) := by decide +kernel
theorem dX5_begin_79 : decode cX5_begin 79 = .ok (.iconst 0, 1) := by decide +kernel
theorem dX5_begin_80 : decode cX5_begin 80 = .ok (.iastore, 1) := by decide +kernel
theorem dX5_begin_81 : decode cX5_begin 81 = .ok (.iinc 1 1, 3) := by decide +kernel
theorem dX5_begin_84 : decode cX5_begin 84 = .ok (.goto (-23), 3) := by decide +kernel
theorem dX5_begin_87 : decode cX5_begin 87 = .ok (.iconst 0, 1) := by decide +kernel
theorem dX5_begin_88 : decode cX5_begin 88 = .ok (.istore_n 1, 1) := by decide +kernel
theorem dX5_begin_89 : decode cX5_begin 89 = .ok (.iload_n 1, 1) := by decide +kernel
theorem dX5_begin_90 : decode cX5_begin 90 = .ok (.sipush 512, 3) := by decide +kernel
theorem dX5_begin_93 : decode cX5_begin 93 = .ok (.if_icmp .ge 23, 3) := by decide +kernel
theorem dX5_begin_96 : decode cX5_begin 96 = .ok (.aload_n 0, 1) := by decide +kernel
theorem dX5_begin_97 : decode cX5_begin 97 = .ok (.getfield 34, 3) := by decide +kernel
theorem dX5_begin_100 : decode cX5_begin 100 = .ok (.iload_n 1, 1) := by decide +kernel
theorem dX5_begin_101 : decode cX5_begin 101 = .ok (.iconst 0, 1) := by decide +kernel
theorem dX5_begin_102 : decode cX5_begin 102 = .ok (.iastore, 1) := by decide +kernel
theorem dX5_begin_103 : decode cX5_begin 103 = .ok (.aload_n 0, 1) := by decide +kernel
theorem dX5_begin_104 : decode cX5_begin 104 = .ok (.getfield 37, 3) := by decide +kernel
theorem dX5_begin_107 : decode cX5_begin 107 = .ok (.iload_n 1, 1) := by decide +kernel
theorem dX5_begin_108 : decode cX5_begin 108 = .ok (.iconst 0, 1) := by decide +kernel
theorem dX5_begin_109 : decode cX5_begin 109 = .ok (.iastore, 1) := by decide +kernel
theorem dX5_begin_110 : decode cX5_begin 110 = .ok (.iinc 1 1, 3) := by decide +kernel
theorem dX5_begin_113 : decode cX5_begin 113 = .ok (.goto (-24), 3) := by decide +kernel
theorem dX5_begin_116 : decode cX5_begin 116 = .ok (.iconst 0, 1) := by decide +kernel
theorem dX5_begin_117 : decode cX5_begin 117 = .ok (.istore_n 1, 1) := by decide +kernel
theorem dX5_begin_118 : decode cX5_begin 118 = .ok (.iload_n 1, 1) := by decide +kernel
theorem dX5_begin_119 : decode cX5_begin 119 = .ok (.sipush 192, 3) := by decide +kernel
theorem dX5_begin_122 : decode cX5_begin 122 = .ok (.if_icmp .ge 23, 3) := by decide +kernel
theorem dX5_begin_125 : decode cX5_begin 125 = .ok (.aload_n 0, 1) := by decide +kernel
theorem dX5_begin_126 : decode cX5_begin 126 = .ok (.getfield 40, 3) := by decide +kernel
theorem dX5_begin_129 : decode cX5_begin 129 = .ok (.iload_n 1, 1) := by decide +kernel
theorem dX5_begin_130 : decode cX5_begin 130 = .ok (.iconst 0, 1) := by decide +kernel
theorem dX5_begin_131 : decode cX5_begin 131 = .ok (.bastore, 1) := by decide +kernel
theorem dX5_begin_132 : decode cX5_begin 132 = .ok (.aload_n 0, 1) := by decide +kernel
theorem dX5_begin_133 : decode cX5_begin 133 = .ok (.getfield 44, 3) := by decide +kernel
theorem dX5_begin_136 : decode cX5_begin 136 = .ok (.iload_n 1, 1) := by decide +kernel
theorem dX5_begin_137 : decode cX5_begin 137 = .ok (.iconst 0, 1) := by decide +kernel
theorem dX5_begin_138 : decode cX5_begin 138 = .ok (.iastore, 1) := by decide +kernel
theorem dX5_begin_139 : decode cX5_begin 139 = .ok (.iinc 1 1, 3) := by decide +kernel
theorem dX5_begin_142 : decode cX5_begin 142 = .ok (.goto (-24), 3) := by decide +kernel
theorem dX5_begin_145 : decode cX5_begin 145 = .ok (.aload_n 0, 1) := by decide +kernel
theorem dX5_begin_146 : decode cX5_begin 146 = .ok (.iconst 0, 1) := by decide +kernel
theorem dX5_begin_147 : decode cX5_begin 147 = .ok (.putfield 69, 3) := by decide +kernel
theorem dX5_begin_150 : decode cX5_begin 150 = .ok (.aload_n 0, 1) := by decide +kernel
theorem dX5_begin_151 : decode cX5_begin 151 = .ok (.iconst 0, 1) := by decide +kernel
theorem dX5_begin_152 : decode cX5_begin 152 = .ok (.putfield 72, 3) := by decide +kernel
theorem dX5_begin_155 : decode cX5_begin 155 = .ok (.return_, 1) := by decide +kernel
theorem dX5_isLink_0 : decode cX5_isLink 0 = .ok (.iload_n 1, 1) := by decide +kernel
theorem dX5_isLink_1 : decode cX5_isLink 1 = .ok (.ifCond .lt 15, 3) := by decide +kernel
theorem dX5_isLink_4 : decode cX5_isLink 4 = .ok (.iload_n 1, 1) := by decide +kernel
theorem dX5_isLink_5 : decode cX5_isLink 5 = .ok (.aload_n 0, 1) := by decide +kernel
theorem dX5_isLink_6 : decode cX5_isLink 6 = .ok (.getfield 59, 3) := by decide +kernel
theorem dX5_isLink_9 : decode cX5_isLink 9 = .ok (.if_icmp .ge 7, 3) := by decide +kernel
theorem dX5_isLink_12 : decode cX5_isLink 12 = .ok (.iconst 1, 1) := by decide +kernel
theorem dX5_isLink_13 : decode cX5_isLink 13 = .ok (.goto 4, 3) := by decide +kernel
theorem dX5_isLink_16 : decode cX5_isLink 16 = .ok (.iconst 0, 1) := by decide +kernel
theorem dX5_isLink_17 : decode cX5_isLink 17 = .ok (.ireturn, 1) := by decide +kernel
theorem dX5_in_0 : decode cX5_in 0 = .ok (.iload_n 0, 1) := by decide +kernel
theorem dX5_in_1 : decode cX5_in 1 = .ok (.iload_n 1, 1) := by decide +kernel
theorem dX5_in_2 : decode cX5_in 2 = .ok (.if_icmp .lt 12, 3) := by decide +kernel
theorem dX5_in_5 : decode cX5_in 5 = .ok (.iload_n 0, 1) := by decide +kernel
theorem dX5_in_6 : decode cX5_in 6 = .ok (.iload_n 2, 1) := by decide +kernel
theorem dX5_in_7 : decode cX5_in 7 = .ok (.if_icmp .gt 7, 3) := by decide +kernel
theorem dX5_in_10 : decode cX5_in 10 = .ok (.iconst 1, 1) := by decide +kernel
theorem dX5_in_11 : decode cX5_in 11 = .ok (.goto 4, 3) := by decide +kernel
theorem dX5_in_14 : decode cX5_in 14 = .ok (.iconst 0, 1) := by decide +kernel
theorem dX5_in_15 : decode cX5_in 15 = .ok (.ireturn, 1) := by decide +kernel
theorem dX5_grace_0 : decode cX5_grace 0 = .ok (.aload_n 0, 1) := by decide +kernel
theorem dX5_grace_1 : decode cX5_grace 1 = .ok (.getfield 7, 3) := by decide +kernel
theorem dX5_grace_4 : decode cX5_grace 4 = .ok (.iload_n 1, 1) := by decide +kernel
theorem dX5_grace_5 : decode cX5_grace 5 = .ok (.iaload, 1) := by decide +kernel
theorem dX5_grace_6 : decode cX5_grace 6 = .ok (.aload_n 0, 1) := by decide +kernel
theorem dX5_grace_7 : decode cX5_grace 7 = .ok (.getfield 13, 3) := by decide +kernel
theorem dX5_grace_10 : decode cX5_grace 10 = .ok (.iload_n 1, 1) := by decide +kernel
theorem dX5_grace_11 : decode cX5_grace 11 = .ok (.iaload, 1) := by decide +kernel
theorem dX5_grace_12 : decode cX5_grace 12 = .ok (.imul, 1) := by decide +kernel
theorem dX5_grace_13 : decode cX5_grace 13 = .ok (.aload_n 0, 1) := by decide +kernel
theorem dX5_grace_14 : decode cX5_grace 14 = .ok (.getfield 16, 3) := by decide +kernel
theorem dX5_grace_17 : decode cX5_grace 17 = .ok (.iload_n 1, 1) := by decide +kernel
theorem dX5_grace_18 : decode cX5_grace 18 = .ok (.iaload, 1) := by decide +kernel
theorem dX5_grace_19 : decode cX5_grace 19 = .ok (.iadd, 1) := by decide +kernel
theorem dX5_grace_20 : decode cX5_grace 20 = .ok (.ireturn, 1) := by decide +kernel
theorem dX5_setOf_0 : decode cX5_setOf 0 = .ok (.iconst 0, 1) := by decide +kernel
theorem dX5_setOf_1 : decode cX5_setOf 1 = .ok (.istore_n 3, 1) := by decide +kernel
theorem dX5_setOf_2 : decode cX5_setOf 2 = .ok (.iconst 0, 1) := by decide +kernel
theorem dX5_setOf_3 : decode cX5_setOf 3 = .ok (.istore 4, 2) := by decide +kernel
theorem dX5_setOf_5 : decode cX5_setOf 5 = .ok (.iload 4, 2) := by decide +kernel
theorem dX5_setOf_7 : decode cX5_setOf 7 = .ok (.bipush 16, 2) := by decide +kernel
theorem dX5_setOf_9 : decode cX5_setOf 9 = .ok (.if_icmp .ge 36, 3) := by decide +kernel
theorem dX5_setOf_12 : decode cX5_setOf 12 = .ok (.aload_n 0, 1) := by decide +kernel
theorem dX5_setOf_13 : decode cX5_setOf 13 = .ok (.getfield 34, 3) := by decide +kernel
theorem dX5_setOf_16 : decode cX5_setOf 16 = .ok (.bipush 16, 2) := by decide +kernel
theorem dX5_setOf_18 : decode cX5_setOf 18 = .ok (.iload_n 1, 1) := by decide +kernel
theorem dX5_setOf_19 : decode cX5_setOf 19 = .ok (.imul, 1) := by decide +kernel
theorem dX5_setOf_20 : decode cX5_setOf 20 = .ok (.iload 4, 2) := by decide +kernel
theorem dX5_setOf_22 : decode cX5_setOf 22 = .ok (.iadd, 1) := by decide +kernel
theorem dX5_setOf_23 : decode cX5_setOf 23 = .ok (.iaload, 1) := by decide +kernel
theorem dX5_setOf_24 : decode cX5_setOf 24 = .ok (.iload_n 2, 1) := by decide +kernel
theorem dX5_setOf_25 : decode cX5_setOf 25 = .ok (.if_icmp .ne 12, 3) := by decide +kernel
theorem dX5_setOf_28 : decode cX5_setOf 28 = .ok (.iload_n 3, 1) := by decide +kernel
theorem dX5_setOf_29 : decode cX5_setOf 29 = .ok (.iconst 1, 1) := by decide +kernel
theorem dX5_setOf_30 : decode cX5_setOf 30 = .ok (.iload 4, 2) := by decide +kernel
theorem dX5_setOf_32 : decode cX5_setOf 32 = .ok (.ishl, 1) := by decide +kernel
theorem dX5_setOf_33 : decode cX5_setOf 33 = .ok (.iadd, 1) := by decide +kernel
theorem dX5_setOf_34 : decode cX5_setOf 34 = .ok (.goto 4, 3) := by decide +kernel
theorem dX5_setOf_37 : decode cX5_setOf 37 = .ok (.iload_n 3, 1) := by decide +kernel
theorem dX5_setOf_38 : decode cX5_setOf 38 = .ok (.istore_n 3, 1) := by decide +kernel
theorem dX5_setOf_39 : decode cX5_setOf 39 = .ok (.iinc 4 1, 3) := by decide +kernel
theorem dX5_setOf_42 : decode cX5_setOf 42 = .ok (.goto (-37), 3) := by decide +kernel
theorem dX5_setOf_45 : decode cX5_setOf 45 = .ok (.iload_n 3, 1) := by decide +kernel
theorem dX5_setOf_46 : decode cX5_setOf 46 = .ok (.ireturn, 1) := by decide +kernel
theorem dX5_become_0 : decode cX5_become 0 = .ok (.aload_n 0, 1) := by decide +kernel
theorem dX5_become_1 : decode cX5_become 1 = .ok (.getfield 28, 3) := by decide +kernel
theorem dX5_become_4 : decode cX5_become 4 = .ok (.iload_n 1, 1) := by decide +kernel
theorem dX5_become_5 : decode cX5_become 5 = .ok (.iload_n 2, 1) := by decide +kernel
theorem dX5_become_6 : decode cX5_become 6 = .ok (.iastore, 1) := by decide +kernel
theorem dX5_become_7 : decode cX5_become 7 = .ok (.iconst 0, 1) := by decide +kernel
theorem dX5_become_8 : decode cX5_become 8 = .ok (.istore 5, 2) := by decide +kernel
theorem dX5_become_10 : decode cX5_become 10 = .ok (.iload 5, 2) := by decide +kernel
theorem dX5_become_12 : decode cX5_become 12 = .ok (.bipush 16, 2) := by decide +kernel
theorem dX5_become_14 : decode cX5_become 14 = .ok (.if_icmp .ge 96, 3) := by decide +kernel
theorem dX5_become_17 : decode cX5_become 17 = .ok (.iload_n 3, 1) := by decide +kernel
theorem dX5_become_18 : decode cX5_become 18 = .ok (.iload 5, 2) := by decide +kernel
theorem dX5_become_20 : decode cX5_become 20 = .ok (.ishr, 1) := by decide +kernel
theorem dX5_become_21 : decode cX5_become 21 = .ok (.iconst 1, 1) := by decide +kernel
theorem dX5_become_22 : decode cX5_become 22 = .ok (.iand, 1) := by decide +kernel
theorem dX5_become_23 : decode cX5_become 23 = .ok (.iconst 1, 1) := by decide +kernel
theorem dX5_become_24 : decode cX5_become 24 = .ok (.if_icmp .ne 7, 3) := by decide +kernel
theorem dX5_become_27 : decode cX5_become 27 = .ok (.iconst 1, 1) := by decide +kernel
theorem dX5_become_28 : decode cX5_become 28 = .ok (.goto 4, 3) := by decide +kernel
theorem dX5_become_31 : decode cX5_become 31 = .ok (.iconst 0, 1) := by decide +kernel
theorem dX5_become_32 : decode cX5_become 32 = .ok (.istore 6, 2) := by decide +kernel
theorem dX5_become_34 : decode cX5_become 34 = .ok (.aload_n 0, 1) := by decide +kernel
theorem dX5_become_35 : decode cX5_become 35 = .ok (.getfield 34, 3) := by decide +kernel
theorem dX5_become_38 : decode cX5_become 38 = .ok (.bipush 16, 2) := by decide +kernel
theorem dX5_become_40 : decode cX5_become 40 = .ok (.iload_n 1, 1) := by decide +kernel
theorem dX5_become_41 : decode cX5_become 41 = .ok (.imul, 1) := by decide +kernel
theorem dX5_become_42 : decode cX5_become 42 = .ok (.iload 5, 2) := by decide +kernel
theorem dX5_become_44 : decode cX5_become 44 = .ok (.iadd, 1) := by decide +kernel
theorem dX5_become_45 : decode cX5_become 45 = .ok (.iload 6, 2) := by decide +kernel
theorem dX5_become_47 : decode cX5_become 47 = .ok (.ifCond .eq 7, 3) := by decide +kernel
theorem dX5_become_50 : decode cX5_become 50 = .ok (.iconst 1, 1) := by decide +kernel
theorem dX5_become_51 : decode cX5_become 51 = .ok (.goto 19, 3) := by decide +kernel
theorem dX5_become_54 : decode cX5_become 54 = .ok (.iload 4, 2) := by decide +kernel
theorem dX5_become_56 : decode cX5_become 56 = .ok (.iload 5, 2) := by decide +kernel
theorem dX5_become_58 : decode cX5_become 58 = .ok (.ishr, 1) := by decide +kernel
theorem dX5_become_59 : decode cX5_become 59 = .ok (.iconst 1, 1) := by decide +kernel
theorem dX5_become_60 : decode cX5_become 60 = .ok (.iand, 1) := by decide +kernel
theorem dX5_become_61 : decode cX5_become 61 = .ok (.iconst 1, 1) := by decide +kernel
theorem dX5_become_62 : decode cX5_become 62 = .ok (.if_icmp .ne 7, 3) := by decide +kernel
theorem dX5_become_65 : decode cX5_become 65 = .ok (.iconst 2, 1) := by decide +kernel
theorem dX5_become_66 : decode cX5_become 66 = .ok (.goto 4, 3) := by decide +kernel
theorem dX5_become_69 : decode cX5_become 69 = .ok (.iconst 0, 1) := by decide +kernel
theorem dX5_become_70 : decode cX5_become 70 = .ok (.iastore, 1) := by decide +kernel
theorem dX5_become_71 : decode cX5_become 71 = .ok (.aload_n 0, 1) := by decide +kernel
theorem dX5_become_72 : decode cX5_become 72 = .ok (.getfield 37, 3) := by decide +kernel
theorem dX5_become_75 : decode cX5_become 75 = .ok (.bipush 16, 2) := by decide +kernel
theorem dX5_become_77 : decode cX5_become 77 = .ok (.iload_n 1, 1) := by decide +kernel
theorem dX5_become_78 : decode cX5_become 78 = .ok (.imul, 1) := by decide +kernel
theorem dX5_become_79 : decode cX5_become 79 = .ok (.iload 5, 2) := by decide +kernel
theorem dX5_become_81 : decode cX5_become 81 = .ok (.iadd, 1) := by decide +kernel
theorem dX5_become_82 : decode cX5_become 82 = .ok (.iload 6, 2) := by decide +kernel
theorem dX5_become_84 : decode cX5_become 84 = .ok (.ifCond .eq 18, 3) := by decide +kernel
theorem dX5_become_87 : decode cX5_become 87 = .ok (.aload_n 0, 1) := by decide +kernel
theorem dX5_become_88 : decode cX5_become 88 = .ok (.getfield 37, 3) := by decide +kernel
theorem dX5_become_91 : decode cX5_become 91 = .ok (.bipush 16, 2) := by decide +kernel
theorem dX5_become_93 : decode cX5_become 93 = .ok (.iload_n 1, 1) := by decide +kernel
theorem dX5_become_94 : decode cX5_become 94 = .ok (.imul, 1) := by decide +kernel
theorem dX5_become_95 : decode cX5_become 95 = .ok (.iload 5, 2) := by decide +kernel
theorem dX5_become_97 : decode cX5_become 97 = .ok (.iadd, 1) := by decide +kernel
theorem dX5_become_98 : decode cX5_become 98 = .ok (.iaload, 1) := by decide +kernel
theorem dX5_become_99 : decode cX5_become 99 = .ok (.goto 4, 3) := by decide +kernel
theorem dX5_become_102 : decode cX5_become 102 = .ok (.iconst 0, 1) := by decide +kernel
theorem dX5_become_103 : decode cX5_become 103 = .ok (.iastore, 1) := by decide +kernel
theorem dX5_become_104 : decode cX5_become 104 = .ok (.iinc 5 1, 3) := by decide +kernel
theorem dX5_become_107 : decode cX5_become 107 = .ok (.goto (-97), 3) := by decide +kernel
theorem dX5_become_110 : decode cX5_become 110 = .ok (.aload_n 0, 1) := by decide +kernel
theorem dX5_become_111 : decode cX5_become 111 = .ok (.getfield 31, 3) := by decide +kernel
theorem dX5_become_114 : decode cX5_become 114 = .ok (.iload_n 1, 1) := by decide +kernel
theorem dX5_become_115 : decode cX5_become 115 = .ok (.iload_n 2, 1) := by decide +kernel
theorem dX5_become_116 : decode cX5_become 116 = .ok (.iconst 1, 1) := by decide +kernel
theorem dX5_become_117 : decode cX5_become 117 = .ok (.if_icmp .ne 12, 3) := by decide +kernel
theorem dX5_become_120 : decode cX5_become 120 = .ok (.aload_n 0, 1) := by decide +kernel
theorem dX5_become_121 : decode cX5_become 121 = .ok (.getfield 31, 3) := by decide +kernel
theorem dX5_become_124 : decode cX5_become 124 = .ok (.iload_n 1, 1) := by decide +kernel
theorem dX5_become_125 : decode cX5_become 125 = .ok (.iaload, 1) := by decide +kernel
theorem dX5_become_126 : decode cX5_become 126 = .ok (.goto 4, 3) := by decide +kernel
theorem dX5_become_129 : decode cX5_become 129 = .ok (.iconst 0, 1) := by decide +kernel
theorem dX5_become_130 : decode cX5_become 130 = .ok (.iastore, 1) := by decide +kernel
theorem dX5_become_131 : decode cX5_become 131 = .ok (.iload_n 2, 1) := by decide +kernel
theorem dX5_become_132 : decode cX5_become 132 = .ok (.ifCond .ne 14, 3) := by decide +kernel
theorem dX5_become_135 : decode cX5_become 135 = .ok (.iload_n 3, 1) := by decide +kernel
theorem dX5_become_136 : decode cX5_become 136 = .ok (.ifCond .ne 10, 3) := by decide +kernel
theorem dX5_become_139 : decode cX5_become 139 = .ok (.aload_n 0, 1) := by decide +kernel
theorem dX5_become_140 : decode cX5_become 140 = .ok (.getfield 28, 3) := by decide +kernel
theorem dX5_become_143 : decode cX5_become 143 = .ok (.iload_n 1, 1) := by decide +kernel
theorem dX5_become_144 : decode cX5_become 144 = .ok (.iconst (-1), 1) := by decide +kernel
theorem dX5_become_145 : decode cX5_become 145 = .ok (.iastore, 1) := by decide +kernel
theorem dX5_become_146 : decode cX5_become 146 = .ok (.return_, 1) := by decide +kernel
theorem dX5_setTimers_0 : decode cX5_setTimers 0 = .ok (.iconst 0, 1) := by decide +kernel
theorem dX5_setTimers_1 : decode cX5_setTimers 1 = .ok (.istore 4, 2) := by decide +kernel
theorem dX5_setTimers_3 : decode cX5_setTimers 3 = .ok (.iload 4, 2) := by decide +kernel
theorem dX5_setTimers_5 : decode cX5_setTimers 5 = .ok (.bipush 16, 2) := by decide +kernel
theorem dX5_setTimers_7 : decode cX5_setTimers 7 = .ok (.if_icmp .ge 47, 3) := by decide +kernel
theorem dX5_setTimers_10 : decode cX5_setTimers 10 = .ok (.aload_n 0, 1) := by decide +kernel
theorem dX5_setTimers_11 : decode cX5_setTimers 11 = .ok (.getfield 37, 3) := by decide +kernel
theorem dX5_setTimers_14 : decode cX5_setTimers 14 = .ok (.bipush 16, 2) := by decide +kernel
theorem dX5_setTimers_16 : decode cX5_setTimers 16 = .ok (.iload_n 1, 1) := by decide +kernel
theorem dX5_setTimers_17 : decode cX5_setTimers 17 = .ok (.imul, 1) := by decide +kernel
theorem dX5_setTimers_18 : decode cX5_setTimers 18 = .ok (.iload 4, 2) := by decide +kernel
theorem dX5_setTimers_20 : decode cX5_setTimers 20 = .ok (.iadd, 1) := by decide +kernel
theorem dX5_setTimers_21 : decode cX5_setTimers 21 = .ok (.iload_n 2, 1) := by decide +kernel
theorem dX5_setTimers_22 : decode cX5_setTimers 22 = .ok (.iload 4, 2) := by decide +kernel
theorem dX5_setTimers_24 : decode cX5_setTimers 24 = .ok (.ishr, 1) := by decide +kernel
theorem dX5_setTimers_25 : decode cX5_setTimers 25 = .ok (.iconst 1, 1) := by decide +kernel
theorem dX5_setTimers_26 : decode cX5_setTimers 26 = .ok (.iand, 1) := by decide +kernel
theorem dX5_setTimers_27 : decode cX5_setTimers 27 = .ok (.iconst 1, 1) := by decide +kernel
theorem dX5_setTimers_28 : decode cX5_setTimers 28 = .ok (.if_icmp .ne 7, 3) := by decide +kernel
theorem dX5_setTimers_31 : decode cX5_setTimers 31 = .ok (.iload_n 3, 1) := by decide +kernel
theorem dX5_setTimers_32 : decode cX5_setTimers 32 = .ok (.goto 15, 3) := by decide +kernel
theorem dX5_setTimers_35 : decode cX5_setTimers 35 = .ok (.aload_n 0, 1) := by decide +kernel
theorem dX5_setTimers_36 : decode cX5_setTimers 36 = .ok (.getfield 37, 3) := by decide +kernel
theorem dX5_setTimers_39 : decode cX5_setTimers 39 = .ok (.bipush 16, 2) := by decide +kernel
theorem dX5_setTimers_41 : decode cX5_setTimers 41 = .ok (.iload_n 1, 1) := by decide +kernel
theorem dX5_setTimers_42 : decode cX5_setTimers 42 = .ok (.imul, 1) := by decide +kernel
theorem dX5_setTimers_43 : decode cX5_setTimers 43 = .ok (.iload 4, 2) := by decide +kernel
theorem dX5_setTimers_45 : decode cX5_setTimers 45 = .ok (.iadd, 1) := by decide +kernel
theorem dX5_setTimers_46 : decode cX5_setTimers 46 = .ok (.iaload, 1) := by decide +kernel
theorem dX5_setTimers_47 : decode cX5_setTimers 47 = .ok (.iastore, 1) := by decide +kernel
theorem dX5_setTimers_48 : decode cX5_setTimers 48 = .ok (.iinc 4 1, 3) := by decide +kernel
theorem dX5_setTimers_51 : decode cX5_setTimers 51 = .ok (.goto (-48), 3) := by decide +kernel
theorem dX5_setTimers_54 : decode cX5_setTimers 54 = .ok (.return_, 1) := by decide +kernel
theorem dX5_lower_0 : decode cX5_lower 0 = .ok (.aload_n 0, 1) := by decide +kernel
theorem dX5_lower_1 : decode cX5_lower 1 = .ok (.getfield 7, 3) := by decide +kernel
theorem dX5_lower_4 : decode cX5_lower 4 = .ok (.iload_n 1, 1) := by decide +kernel
theorem dX5_lower_5 : decode cX5_lower 5 = .ok (.iaload, 1) := by decide +kernel
theorem dX5_lower_6 : decode cX5_lower 6 = .ok (.istore 4, 2) := by decide +kernel
theorem dX5_lower_8 : decode cX5_lower 8 = .ok (.iconst 0, 1) := by decide +kernel
theorem dX5_lower_9 : decode cX5_lower 9 = .ok (.istore 5, 2) := by decide +kernel
theorem dX5_lower_11 : decode cX5_lower 11 = .ok (.iload 5, 2) := by decide +kernel
theorem dX5_lower_13 : decode cX5_lower 13 = .ok (.bipush 16, 2) := by decide +kernel
theorem dX5_lower_15 : decode cX5_lower 15 = .ok (.if_icmp .ge 77, 3) := by decide +kernel
theorem dX5_lower_18 : decode cX5_lower 18 = .ok (.iload_n 3, 1) := by decide +kernel
theorem dX5_lower_19 : decode cX5_lower 19 = .ok (.iload 5, 2) := by decide +kernel
theorem dX5_lower_21 : decode cX5_lower 21 = .ok (.ishr, 1) := by decide +kernel
theorem dX5_lower_22 : decode cX5_lower 22 = .ok (.iconst 1, 1) := by decide +kernel
theorem dX5_lower_23 : decode cX5_lower 23 = .ok (.iand, 1) := by decide +kernel
theorem dX5_lower_24 : decode cX5_lower 24 = .ok (.iconst 1, 1) := by decide +kernel
theorem dX5_lower_25 : decode cX5_lower 25 = .ok (.if_icmp .ne 24, 3) := by decide +kernel
theorem dX5_lower_28 : decode cX5_lower 28 = .ok (.aload_n 0, 1) := by decide +kernel
theorem dX5_lower_29 : decode cX5_lower 29 = .ok (.getfield 37, 3) := by decide +kernel
theorem dX5_lower_32 : decode cX5_lower 32 = .ok (.bipush 16, 2) := by decide +kernel
theorem dX5_lower_34 : decode cX5_lower 34 = .ok (.iload_n 2, 1) := by decide +kernel
theorem dX5_lower_35 : decode cX5_lower 35 = .ok (.imul, 1) := by decide +kernel
theorem dX5_lower_36 : decode cX5_lower 36 = .ok (.iload 5, 2) := by decide +kernel
theorem dX5_lower_38 : decode cX5_lower 38 = .ok (.iadd, 1) := by decide +kernel
theorem dX5_lower_39 : decode cX5_lower 39 = .ok (.iaload, 1) := by decide +kernel
theorem dX5_lower_40 : decode cX5_lower 40 = .ok (.iload 4, 2) := by decide +kernel
theorem dX5_lower_42 : decode cX5_lower 42 = .ok (.if_icmp .le 7, 3) := by decide +kernel
theorem dX5_lower_45 : decode cX5_lower 45 = .ok (.iconst 1, 1) := by decide +kernel
theorem dX5_lower_46 : decode cX5_lower 46 = .ok (.goto 4, 3) := by decide +kernel
theorem dX5_lower_49 : decode cX5_lower 49 = .ok (.iconst 0, 1) := by decide +kernel
theorem dX5_lower_50 : decode cX5_lower 50 = .ok (.istore 6, 2) := by decide +kernel
theorem dX5_lower_52 : decode cX5_lower 52 = .ok (.aload_n 0, 1) := by decide +kernel
theorem dX5_lower_53 : decode cX5_lower 53 = .ok (.getfield 37, 3) := by decide +kernel
theorem dX5_lower_56 : decode cX5_lower 56 = .ok (.bipush 16, 2) := by decide +kernel
theorem dX5_lower_58 : decode cX5_lower 58 = .ok (.iload_n 2, 1) := by decide +kernel
theorem dX5_lower_59 : decode cX5_lower 59 = .ok (.imul, 1) := by decide +kernel
theorem dX5_lower_60 : decode cX5_lower 60 = .ok (.iload 5, 2) := by decide +kernel
theorem dX5_lower_62 : decode cX5_lower 62 = .ok (.iadd, 1) := by decide +kernel
theorem dX5_lower_63 : decode cX5_lower 63 = .ok (.iload 6, 2) := by decide +kernel
theorem dX5_lower_65 : decode cX5_lower 65 = .ok (.ifCond .eq 8, 3) := by decide +kernel
theorem dX5_lower_68 : decode cX5_lower 68 = .ok (.iload 4, 2) := by decide +kernel
theorem dX5_lower_70 : decode cX5_lower 70 = .ok (.goto 15, 3) := by decide +kernel
theorem dX5_lower_73 : decode cX5_lower 73 = .ok (.aload_n 0, 1) := by decide +kernel
theorem dX5_lower_74 : decode cX5_lower 74 = .ok (.getfield 37, 3) := by decide +kernel
theorem dX5_lower_77 : decode cX5_lower 77 = .ok (.bipush 16, 2) := by decide +kernel
theorem dX5_lower_79 : decode cX5_lower 79 = .ok (.iload_n 2, 1) := by decide +kernel
theorem dX5_lower_80 : decode cX5_lower 80 = .ok (.imul, 1) := by decide +kernel
theorem dX5_lower_81 : decode cX5_lower 81 = .ok (.iload 5, 2) := by decide +kernel
theorem dX5_lower_83 : decode cX5_lower 83 = .ok (.iadd, 1) := by decide +kernel
theorem dX5_lower_84 : decode cX5_lower 84 = .ok (.iaload, 1) := by decide +kernel
theorem dX5_lower_85 : decode cX5_lower 85 = .ok (.iastore, 1) := by decide +kernel
theorem dX5_lower_86 : decode cX5_lower 86 = .ok (.iinc 5 1, 3) := by decide +kernel
theorem dX5_lower_89 : decode cX5_lower 89 = .ok (.goto (-78), 3) := by decide +kernel
theorem dX5_lower_92 : decode cX5_lower 92 = .ok (.return_, 1) := by decide +kernel
theorem dX5_lowerGroup_0 : decode cX5_lowerGroup 0 = .ok (.aload_n 0, 1) := by decide +kernel
theorem dX5_lowerGroup_1 : decode cX5_lowerGroup 1 = .ok (.getfield 31, 3) := by decide +kernel
theorem dX5_lowerGroup_4 : decode cX5_lowerGroup 4 = .ok (.iload_n 2, 1) := by decide +kernel
theorem dX5_lowerGroup_5 : decode cX5_lowerGroup 5 = .ok (.aload_n 0, 1) := by decide +kernel
theorem dX5_lowerGroup_6 : decode cX5_lowerGroup 6 = .ok (.getfield 31, 3) := by decide +kernel
theorem dX5_lowerGroup_9 : decode cX5_lowerGroup 9 = .ok (.iload_n 2, 1) := by decide +kernel
theorem dX5_lowerGroup_10 : decode cX5_lowerGroup 10 = .ok (.iaload, 1) := by decide +kernel
theorem dX5_lowerGroup_11 : decode cX5_lowerGroup 11 = .ok (.aload_n 0, 1) := by decide +kernel
theorem dX5_lowerGroup_12 : decode cX5_lowerGroup 12 = .ok (.getfield 7, 3) := by decide +kernel
theorem dX5_lowerGroup_15 : decode cX5_lowerGroup 15 = .ok (.iload_n 1, 1) := by decide +kernel
theorem dX5_lowerGroup_16 : decode cX5_lowerGroup 16 = .ok (.iaload, 1) := by decide +kernel
theorem dX5_lowerGroup_17 : decode cX5_lowerGroup 17 = .ok (.if_icmp .le 12, 3) := by decide +kernel
theorem dX5_lowerGroup_20 : decode cX5_lowerGroup 20 = .ok (.aload_n 0, 1) := by decide +kernel
theorem dX5_lowerGroup_21 : decode cX5_lowerGroup 21 = .ok (.getfield 7, 3) := by decide +kernel
theorem dX5_lowerGroup_24 : decode cX5_lowerGroup 24 = .ok (.iload_n 1, 1) := by decide +kernel
theorem dX5_lowerGroup_25 : decode cX5_lowerGroup 25 = .ok (.iaload, 1) := by decide +kernel
theorem dX5_lowerGroup_26 : decode cX5_lowerGroup 26 = .ok (.goto 9, 3) := by decide +kernel
theorem dX5_lowerGroup_29 : decode cX5_lowerGroup 29 = .ok (.aload_n 0, 1) := by decide +kernel
theorem dX5_lowerGroup_30 : decode cX5_lowerGroup 30 = .ok (.getfield 31, 3) := by decide +kernel
theorem dX5_lowerGroup_33 : decode cX5_lowerGroup 33 = .ok (.iload_n 2, 1) := by decide +kernel
theorem dX5_lowerGroup_34 : decode cX5_lowerGroup 34 = .ok (.iaload, 1) := by decide +kernel
theorem dX5_lowerGroup_35 : decode cX5_lowerGroup 35 = .ok (.iastore, 1) := by decide +kernel
theorem dX5_lowerGroup_36 : decode cX5_lowerGroup 36 = .ok (.return_, 1) := by decide +kernel
theorem dX5_send_0 : decode cX5_send 0 = .ok (.aload_n 0, 1) := by decide +kernel
theorem dX5_send_1 : decode cX5_send 1 = .ok (.getfield 72, 3) := by decide +kernel
theorem dX5_send_4 : decode cX5_send 4 = .ok (.bipush 40, 2) := by decide +kernel
theorem dX5_send_6 : decode cX5_send 6 = .ok (.irem, 1) := by decide +kernel
theorem dX5_send_7 : decode cX5_send 7 = .ok (.istore 4, 2) := by decide +kernel
theorem dX5_send_9 : decode cX5_send 9 = .ok (.aload_n 0, 1) := by decide +kernel
theorem dX5_send_10 : decode cX5_send 10 = .ok (.getfield 47, 3) := by decide +kernel
theorem dX5_send_13 : decode cX5_send 13 = .ok (.iload 4, 2) := by decide +kernel
theorem dX5_send_15 : decode cX5_send 15 = .ok (.iload_n 1, 1) := by decide +kernel
theorem dX5_send_16 : decode cX5_send 16 = .ok (.iastore, 1) := by decide +kernel
theorem dX5_send_17 : decode cX5_send 17 = .ok (.aload_n 0, 1) := by decide +kernel
theorem dX5_send_18 : decode cX5_send 18 = .ok (.getfield 50, 3) := by decide +kernel
theorem dX5_send_21 : decode cX5_send 21 = .ok (.iload 4, 2) := by decide +kernel
theorem dX5_send_23 : decode cX5_send 23 = .ok (.iload_n 2, 1) := by decide +kernel
theorem dX5_send_24 : decode cX5_send 24 = .ok (.iastore, 1) := by decide +kernel
theorem dX5_send_25 : decode cX5_send 25 = .ok (.aload_n 0, 1) := by decide +kernel
theorem dX5_send_26 : decode cX5_send 26 = .ok (.getfield 53, 3) := by decide +kernel
theorem dX5_send_29 : decode cX5_send 29 = .ok (.iload 4, 2) := by decide +kernel
theorem dX5_send_31 : decode cX5_send 31 = .ok (.iload_n 3, 1) := by decide +kernel
theorem dX5_send_32 : decode cX5_send 32 = .ok (.iastore, 1) := by decide +kernel
theorem dX5_send_33 : decode cX5_send 33 = .ok (.aload_n 0, 1) := by decide +kernel
theorem dX5_send_34 : decode cX5_send 34 = .ok (.getfield 56, 3) := by decide +kernel
theorem dX5_send_37 : decode cX5_send 37 = .ok (.iload 4, 2) := by decide +kernel
theorem dX5_send_39 : decode cX5_send 39 = .ok (.aload_n 0, 1) := by decide +kernel
theorem dX5_send_40 : decode cX5_send 40 = .ok (.getfield 69, 3) := by decide +kernel
theorem dX5_send_43 : decode cX5_send 43 = .ok (.iastore, 1) := by decide +kernel
theorem dX5_send_44 : decode cX5_send 44 = .ok (.aload_n 0, 1) := by decide +kernel
theorem dX5_send_45 : decode cX5_send 45 = .ok (.dup, 1) := by decide +kernel
theorem dX5_send_46 : decode cX5_send 46 = .ok (.getfield 72, 3) := by decide +kernel
theorem dX5_send_49 : decode cX5_send 49 = .ok (.iconst 1, 1) := by decide +kernel
theorem dX5_send_50 : decode cX5_send 50 = .ok (.iadd, 1) := by decide +kernel
theorem dX5_send_51 : decode cX5_send 51 = .ok (.putfield 72, 3) := by decide +kernel
theorem dX5_send_54 : decode cX5_send 54 = .ok (.return_, 1) := by decide +kernel
theorem dX5_asks_0 : decode cX5_asks 0 = .ok (.aload_n 0, 1) := by decide +kernel
theorem dX5_asks_1 : decode cX5_asks 1 = .ok (.getfield 22, 3) := by decide +kernel
theorem dX5_asks_4 : decode cX5_asks 4 = .ok (.iload_n 1, 1) := by decide +kernel
theorem dX5_asks_5 : decode cX5_asks 5 = .ok (.iaload, 1) := by decide +kernel
theorem dX5_asks_6 : decode cX5_asks 6 = .ok (.ifCond .ne 7, 3) := by decide +kernel
theorem dX5_asks_9 : decode cX5_asks 9 = .ok (.iconst 1, 1) := by decide +kernel
theorem dX5_asks_10 : decode cX5_asks 10 = .ok (.goto 4, 3) := by decide +kernel
theorem dX5_asks_13 : decode cX5_asks 13 = .ok (.iconst 0, 1) := by decide +kernel
theorem dX5_asks_14 : decode cX5_asks 14 = .ok (.ireturn, 1) := by decide +kernel
theorem dX5_ask_0 : decode cX5_ask 0 = .ok (.iload_n 3, 1) := by decide +kernel
theorem dX5_ask_1 : decode cX5_ask 1 = .ok (.ifCond .eq 30, 3) := by decide +kernel
theorem dX5_ask_4 : decode cX5_ask 4 = .ok (.aload_n 0, 1) := by decide +kernel
theorem dX5_ask_5 : decode cX5_ask 5 = .ok (.iload_n 1, 1) := by decide +kernel
theorem dX5_ask_6 : decode cX5_ask 6 = .ok (.invokevirtual 75, 3) := by decide +kernel
theorem dX5_ask_9 : decode cX5_ask 9 = .ok (.ifCond .eq 22, 3) := by decide +kernel
theorem dX5_ask_12 : decode cX5_ask 12 = .ok (.aload_n 0, 1) := by decide +kernel
theorem dX5_ask_13 : decode cX5_ask 13 = .ok (.iload_n 1, 1) := by decide +kernel
theorem dX5_ask_14 : decode cX5_ask 14 = .ok (.iload_n 2, 1) := by decide +kernel
theorem dX5_ask_15 : decode cX5_ask 15 = .ok (.iload_n 3, 1) := by decide +kernel
theorem dX5_ask_16 : decode cX5_ask 16 = .ok (.invokevirtual 79, 3) := by decide +kernel
theorem dX5_ask_19 : decode cX5_ask 19 = .ok (.aload_n 0, 1) := by decide +kernel
theorem dX5_ask_20 : decode cX5_ask 20 = .ok (.iload_n 1, 1) := by decide +kernel
theorem dX5_ask_21 : decode cX5_ask 21 = .ok (.bipush 8, 2) := by decide +kernel
theorem dX5_ask_23 : decode cX5_ask 23 = .ok (.iload_n 1, 1) := by decide +kernel
theorem dX5_ask_24 : decode cX5_ask 24 = .ok (.imul, 1) := by decide +kernel
theorem dX5_ask_25 : decode cX5_ask 25 = .ok (.iload_n 2, 1) := by decide +kernel
theorem dX5_ask_26 : decode cX5_ask 26 = .ok (.iadd, 1) := by decide +kernel
theorem dX5_ask_27 : decode cX5_ask 27 = .ok (.iload_n 3, 1) := by decide +kernel
theorem dX5_ask_28 : decode cX5_ask 28 = .ok (.invokevirtual 83, 3) := by decide +kernel
theorem dX5_ask_31 : decode cX5_ask 31 = .ok (.return_, 1) := by decide +kernel
theorem dX5_askGroup_0 : decode cX5_askGroup 0 = .ok (.aload_n 0, 1) := by decide +kernel
theorem dX5_askGroup_1 : decode cX5_askGroup 1 = .ok (.iload_n 1, 1) := by decide +kernel
theorem dX5_askGroup_2 : decode cX5_askGroup 2 = .ok (.invokevirtual 75, 3) := by decide +kernel
theorem dX5_askGroup_5 : decode cX5_askGroup 5 = .ok (.ifCond .eq 21, 3) := by decide +kernel
theorem dX5_askGroup_8 : decode cX5_askGroup 8 = .ok (.aload_n 0, 1) := by decide +kernel
theorem dX5_askGroup_9 : decode cX5_askGroup 9 = .ok (.iload_n 1, 1) := by decide +kernel
theorem dX5_askGroup_10 : decode cX5_askGroup 10 = .ok (.iload_n 2, 1) := by decide +kernel
theorem dX5_askGroup_11 : decode cX5_askGroup 11 = .ok (.iconst 0, 1) := by decide +kernel
theorem dX5_askGroup_12 : decode cX5_askGroup 12 = .ok (.invokevirtual 79, 3) := by decide +kernel
theorem dX5_askGroup_15 : decode cX5_askGroup 15 = .ok (.aload_n 0, 1) := by decide +kernel
theorem dX5_askGroup_16 : decode cX5_askGroup 16 = .ok (.iload_n 1, 1) := by decide +kernel
theorem dX5_askGroup_17 : decode cX5_askGroup 17 = .ok (.bipush 8, 2) := by decide +kernel
theorem dX5_askGroup_19 : decode cX5_askGroup 19 = .ok (.iload_n 1, 1) := by decide +kernel
theorem dX5_askGroup_20 : decode cX5_askGroup 20 = .ok (.imul, 1) := by decide +kernel
theorem dX5_askGroup_21 : decode cX5_askGroup 21 = .ok (.iload_n 2, 1) := by decide +kernel
theorem dX5_askGroup_22 : decode cX5_askGroup 22 = .ok (.iadd, 1) := by decide +kernel
theorem dX5_askGroup_23 : decode cX5_askGroup 23 = .ok (.invokevirtual 86, 3) := by decide +kernel
theorem dX5_askGroup_26 : decode cX5_askGroup 26 = .ok (.return_, 1) := by decide +kernel
theorem dX5_including_0 : decode cX5_including 0 = .ok (.bipush 8, 2) := by decide +kernel
theorem dX5_including_2 : decode cX5_including 2 = .ok (.iload_n 1, 1) := by decide +kernel
theorem dX5_including_3 : decode cX5_including 3 = .ok (.imul, 1) := by decide +kernel
theorem dX5_including_4 : decode cX5_including 4 = .ok (.iload_n 2, 1) := by decide +kernel
theorem dX5_including_5 : decode cX5_including 5 = .ok (.iadd, 1) := by decide +kernel
theorem dX5_including_6 : decode cX5_including 6 = .ok (.istore 5, 2) := by decide +kernel
theorem dX5_including_8 : decode cX5_including 8 = .ok (.aload_n 0, 1) := by decide +kernel
theorem dX5_including_9 : decode cX5_including 9 = .ok (.iload 5, 2) := by decide +kernel
theorem dX5_including_11 : decode cX5_including 11 = .ok (.iconst 1, 1) := by decide +kernel
theorem dX5_including_12 : decode cX5_including 12 = .ok (.invokevirtual 90, 3) := by decide +kernel
theorem dX5_including_15 : decode cX5_including 15 = .ok (.istore 6, 2) := by decide +kernel
theorem dX5_including_17 : decode cX5_including 17 = .ok (.iload_n 3, 1) := by decide +kernel
theorem dX5_including_18 : decode cX5_including 18 = .ok (.ifCond .eq 13, 3) := by decide +kernel
theorem dX5_including_21 : decode cX5_including 21 = .ok (.iload_n 3, 1) := by decide +kernel
theorem dX5_including_22 : decode cX5_including 22 = .ok (.iconst 4, 1) := by decide +kernel
theorem dX5_including_23 : decode cX5_including 23 = .ok (.if_icmp .eq 8, 3) := by decide +kernel
theorem dX5_including_26 : decode cX5_including 26 = .ok (.iload_n 3, 1) := by decide +kernel
theorem dX5_including_27 : decode cX5_including 27 = .ok (.iconst 2, 1) := by decide +kernel
theorem dX5_including_28 : decode cX5_including 28 = .ok (.if_icmp .ne 32, 3) := by decide +kernel
theorem dX5_including_31 : decode cX5_including 31 = .ok (.aload_n 0, 1) := by decide +kernel
theorem dX5_including_32 : decode cX5_including 32 = .ok (.iload 5, 2) := by decide +kernel
theorem dX5_including_34 : decode cX5_including 34 = .ok (.iconst 0, 1) := by decide +kernel
theorem dX5_including_35 : decode cX5_including 35 = .ok (.iload 6, 2) := by decide +kernel
theorem dX5_including_37 : decode cX5_including 37 = .ok (.iload 4, 2) := by decide +kernel
theorem dX5_including_39 : decode cX5_including 39 = .ok (.ior, 1) := by decide +kernel
theorem dX5_including_40 : decode cX5_including 40 = .ok (.iconst 0, 1) := by decide +kernel
theorem dX5_including_41 : decode cX5_including 41 = .ok (.invokevirtual 94, 3) := by decide +kernel
theorem dX5_including_44 : decode cX5_including 44 = .ok (.aload_n 0, 1) := by decide +kernel
theorem dX5_including_45 : decode cX5_including 45 = .ok (.iload 5, 2) := by decide +kernel
theorem dX5_including_47 : decode cX5_including 47 = .ok (.iload 4, 2) := by decide +kernel
theorem dX5_including_49 : decode cX5_including 49 = .ok (.aload_n 0, 1) := by decide +kernel
theorem dX5_including_50 : decode cX5_including 50 = .ok (.iload_n 1, 1) := by decide +kernel
theorem dX5_including_51 : decode cX5_including 51 = .ok (.invokevirtual 98, 3) := by decide +kernel
theorem dX5_including_54 : decode cX5_including 54 = .ok (.invokevirtual 102, 3) := by decide +kernel
theorem dX5_including_57 : decode cX5_including 57 = .ok (.goto 44, 3) := by decide +kernel
theorem dX5_including_60 : decode cX5_including 60 = .ok (.iload_n 3, 1) := by decide +kernel
theorem dX5_including_61 : decode cX5_including 61 = .ok (.iconst 1, 1) := by decide +kernel
theorem dX5_including_62 : decode cX5_including 62 = .ok (.if_icmp .eq 8, 3) := by decide +kernel
theorem dX5_including_65 : decode cX5_including 65 = .ok (.iload_n 3, 1) := by decide +kernel
theorem dX5_including_66 : decode cX5_including 66 = .ok (.iconst 3, 1) := by decide +kernel
theorem dX5_including_67 : decode cX5_including 67 = .ok (.if_icmp .ne 34, 3) := by decide +kernel
theorem dX5_including_70 : decode cX5_including 70 = .ok (.aload_n 0, 1) := by decide +kernel
theorem dX5_including_71 : decode cX5_including 71 = .ok (.iload 5, 2) := by decide +kernel
theorem dX5_including_73 : decode cX5_including 73 = .ok (.iconst 1, 1) := by decide +kernel
theorem dX5_including_74 : decode cX5_including 74 = .ok (.iload 6, 2) := by decide +kernel
theorem dX5_including_76 : decode cX5_including 76 = .ok (.iload 4, 2) := by decide +kernel
theorem dX5_including_78 : decode cX5_including 78 = .ok (.iand, 1) := by decide +kernel
theorem dX5_including_79 : decode cX5_including 79 = .ok (.iload 4, 2) := by decide +kernel
theorem dX5_including_81 : decode cX5_including 81 = .ok (.iload 6, 2) := by decide +kernel
theorem dX5_including_83 : decode cX5_including 83 = .ok (.iconst (-1), 1) := by decide +kernel
theorem dX5_including_84 : decode cX5_including 84 = .ok (.ixor, 1) := by decide +kernel
theorem dX5_including_85 : decode cX5_including 85 = .ok (.iand, 1) := by decide +kernel
theorem dX5_including_86 : decode cX5_including 86 = .ok (.invokevirtual 94, 3) := by decide +kernel
theorem dX5_including_89 : decode cX5_including 89 = .ok (.aload_n 0, 1) := by decide +kernel
theorem dX5_including_90 : decode cX5_including 90 = .ok (.getfield 31, 3) := by decide +kernel
theorem dX5_including_93 : decode cX5_including 93 = .ok (.iload 5, 2) := by decide +kernel
theorem dX5_including_95 : decode cX5_including 95 = .ok (.aload_n 0, 1) := by decide +kernel
theorem dX5_including_96 : decode cX5_including 96 = .ok (.iload_n 1, 1) := by decide +kernel
theorem dX5_including_97 : decode cX5_including 97 = .ok (.invokevirtual 98, 3) := by decide +kernel
theorem dX5_including_100 : decode cX5_including 100 = .ok (.iastore, 1) := by decide +kernel
theorem dX5_including_101 : decode cX5_including 101 = .ok (.iload_n 3, 1) := by decide +kernel
theorem dX5_including_102 : decode cX5_including 102 = .ok (.iconst 2, 1) := by decide +kernel
theorem dX5_including_103 : decode cX5_including 103 = .ok (.if_icmp .ne 19, 3) := by decide +kernel
theorem dX5_including_106 : decode cX5_including 106 = .ok (.aload_n 0, 1) := by decide +kernel
theorem dX5_including_107 : decode cX5_including 107 = .ok (.iload_n 1, 1) := by decide +kernel
theorem dX5_including_108 : decode cX5_including 108 = .ok (.iload_n 2, 1) := by decide +kernel
theorem dX5_including_109 : decode cX5_including 109 = .ok (.iload 6, 2) := by decide +kernel
theorem dX5_including_111 : decode cX5_including 111 = .ok (.iload 4, 2) := by decide +kernel
theorem dX5_including_113 : decode cX5_including 113 = .ok (.iconst (-1), 1) := by decide +kernel
theorem dX5_including_114 : decode cX5_including 114 = .ok (.ixor, 1) := by decide +kernel
theorem dX5_including_115 : decode cX5_including 115 = .ok (.iand, 1) := by decide +kernel
theorem dX5_including_116 : decode cX5_including 116 = .ok (.invokevirtual 105, 3) := by decide +kernel
theorem dX5_including_119 : decode cX5_including 119 = .ok (.goto 24, 3) := by decide +kernel
theorem dX5_including_122 : decode cX5_including 122 = .ok (.iload_n 3, 1) := by decide +kernel
theorem dX5_including_123 : decode cX5_including 123 = .ok (.iconst 3, 1) := by decide +kernel
theorem dX5_including_124 : decode cX5_including 124 = .ok (.if_icmp .eq 8, 3) := by decide +kernel
theorem dX5_including_127 : decode cX5_including 127 = .ok (.iload_n 3, 1) := by decide +kernel
theorem dX5_including_128 : decode cX5_including 128 = .ok (.iconst 5, 1) := by decide +kernel
theorem dX5_including_129 : decode cX5_including 129 = .ok (.if_icmp .ne 14, 3) := by decide +kernel
theorem dX5_including_132 : decode cX5_including 132 = .ok (.aload_n 0, 1) := by decide +kernel
theorem dX5_including_133 : decode cX5_including 133 = .ok (.iload_n 1, 1) := by decide +kernel
theorem dX5_including_134 : decode cX5_including 134 = .ok (.iload_n 2, 1) := by decide +kernel
theorem dX5_including_135 : decode cX5_including 135 = .ok (.iload 6, 2) := by decide +kernel
theorem dX5_including_137 : decode cX5_including 137 = .ok (.iload 4, 2) := by decide +kernel
theorem dX5_including_139 : decode cX5_including 139 = .ok (.iand, 1) := by decide +kernel
theorem dX5_including_140 : decode cX5_including 140 = .ok (.invokevirtual 105, 3) := by decide +kernel
theorem dX5_including_143 : decode cX5_including 143 = .ok (.return_, 1) := by decide +kernel
theorem dX5_excluding_0 : decode cX5_excluding 0 = .ok (.bipush 8, 2) := by decide +kernel
theorem dX5_excluding_2 : decode cX5_excluding 2 = .ok (.iload_n 1, 1) := by decide +kernel
theorem dX5_excluding_3 : decode cX5_excluding 3 = .ok (.imul, 1) := by decide +kernel
theorem dX5_excluding_4 : decode cX5_excluding 4 = .ok (.iload_n 2, 1) := by decide +kernel
theorem dX5_excluding_5 : decode cX5_excluding 5 = .ok (.iadd, 1) := by decide +kernel
theorem dX5_excluding_6 : decode cX5_excluding 6 = .ok (.istore 5, 2) := by decide +kernel
theorem dX5_excluding_8 : decode cX5_excluding 8 = .ok (.aload_n 0, 1) := by decide +kernel
theorem dX5_excluding_9 : decode cX5_excluding 9 = .ok (.iload 5, 2) := by decide +kernel
theorem dX5_excluding_11 : decode cX5_excluding 11 = .ok (.iconst 1, 1) := by decide +kernel
theorem dX5_excluding_12 : decode cX5_excluding 12 = .ok (.invokevirtual 90, 3) := by decide +kernel
theorem dX5_excluding_15 : decode cX5_excluding 15 = .ok (.istore 6, 2) := by decide +kernel
theorem dX5_excluding_17 : decode cX5_excluding 17 = .ok (.aload_n 0, 1) := by decide +kernel
theorem dX5_excluding_18 : decode cX5_excluding 18 = .ok (.iload 5, 2) := by decide +kernel
theorem dX5_excluding_20 : decode cX5_excluding 20 = .ok (.iconst 2, 1) := by decide +kernel
theorem dX5_excluding_21 : decode cX5_excluding 21 = .ok (.invokevirtual 90, 3) := by decide +kernel
theorem dX5_excluding_24 : decode cX5_excluding 24 = .ok (.istore 7, 2) := by decide +kernel
theorem dX5_excluding_26 : decode cX5_excluding 26 = .ok (.iload 4, 2) := by decide +kernel
theorem dX5_excluding_28 : decode cX5_excluding 28 = .ok (.iload 6, 2) := by decide +kernel
theorem dX5_excluding_30 : decode cX5_excluding 30 = .ok (.iconst (-1), 1) := by decide +kernel
theorem dX5_excluding_31 : decode cX5_excluding 31 = .ok (.ixor, 1) := by decide +kernel
theorem dX5_excluding_32 : decode cX5_excluding 32 = .ok (.iand, 1) := by decide +kernel
theorem dX5_excluding_33 : decode cX5_excluding 33 = .ok (.iload 7, 2) := by decide +kernel
theorem dX5_excluding_35 : decode cX5_excluding 35 = .ok (.iconst (-1), 1) := by decide +kernel
theorem dX5_excluding_36 : decode cX5_excluding 36 = .ok (.ixor, 1) := by decide +kernel
theorem dX5_excluding_37 : decode cX5_excluding 37 = .ok (.iand, 1) := by decide +kernel
theorem dX5_excluding_38 : decode cX5_excluding 38 = .ok (.istore 8, 2) := by decide +kernel
theorem dX5_excluding_40 : decode cX5_excluding 40 = .ok (.aload_n 0, 1) := by decide +kernel
theorem dX5_excluding_41 : decode cX5_excluding 41 = .ok (.getfield 31, 3) := by decide +kernel
theorem dX5_excluding_44 : decode cX5_excluding 44 = .ok (.iload 5, 2) := by decide +kernel
theorem dX5_excluding_46 : decode cX5_excluding 46 = .ok (.iaload, 1) := by decide +kernel
theorem dX5_excluding_47 : decode cX5_excluding 47 = .ok (.istore 9, 2) := by decide +kernel
theorem dX5_excluding_49 : decode cX5_excluding 49 = .ok (.iload_n 3, 1) := by decide +kernel
theorem dX5_excluding_50 : decode cX5_excluding 50 = .ok (.ifCond .eq 13, 3) := by decide +kernel
theorem dX5_excluding_53 : decode cX5_excluding 53 = .ok (.iload_n 3, 1) := by decide +kernel
theorem dX5_excluding_54 : decode cX5_excluding 54 = .ok (.iconst 4, 1) := by decide +kernel
theorem dX5_excluding_55 : decode cX5_excluding 55 = .ok (.if_icmp .eq 8, 3) := by decide +kernel
theorem dX5_excluding_58 : decode cX5_excluding 58 = .ok (.iload_n 3, 1) := by decide +kernel
theorem dX5_excluding_59 : decode cX5_excluding 59 = .ok (.iconst 2, 1) := by decide +kernel
theorem dX5_excluding_60 : decode cX5_excluding 60 = .ok (.if_icmp .ne 38, 3) := by decide +kernel
theorem dX5_excluding_63 : decode cX5_excluding 63 = .ok (.aload_n 0, 1) := by decide +kernel
theorem dX5_excluding_64 : decode cX5_excluding 64 = .ok (.iload 5, 2) := by decide +kernel
theorem dX5_excluding_66 : decode cX5_excluding 66 = .ok (.iconst 1, 1) := by decide +kernel
theorem dX5_excluding_67 : decode cX5_excluding 67 = .ok (.iload 6, 2) := by decide +kernel
theorem dX5_excluding_69 : decode cX5_excluding 69 = .ok (.iload 4, 2) := by decide +kernel
theorem dX5_excluding_71 : decode cX5_excluding 71 = .ok (.ior, 1) := by decide +kernel
theorem dX5_excluding_72 : decode cX5_excluding 72 = .ok (.iload 7, 2) := by decide +kernel
theorem dX5_excluding_74 : decode cX5_excluding 74 = .ok (.iload 4, 2) := by decide +kernel
theorem dX5_excluding_76 : decode cX5_excluding 76 = .ok (.iconst (-1), 1) := by decide +kernel
theorem dX5_excluding_77 : decode cX5_excluding 77 = .ok (.ixor, 1) := by decide +kernel
theorem dX5_excluding_78 : decode cX5_excluding 78 = .ok (.iand, 1) := by decide +kernel
theorem dX5_excluding_79 : decode cX5_excluding 79 = .ok (.invokevirtual 94, 3) := by decide +kernel
theorem dX5_excluding_82 : decode cX5_excluding 82 = .ok (.aload_n 0, 1) := by decide +kernel
theorem dX5_excluding_83 : decode cX5_excluding 83 = .ok (.iload 5, 2) := by decide +kernel
theorem dX5_excluding_85 : decode cX5_excluding 85 = .ok (.iload 4, 2) := by decide +kernel
theorem dX5_excluding_87 : decode cX5_excluding 87 = .ok (.aload_n 0, 1) := by decide +kernel
theorem dX5_excluding_88 : decode cX5_excluding 88 = .ok (.iload_n 1, 1) := by decide +kernel
theorem dX5_excluding_89 : decode cX5_excluding 89 = .ok (.invokevirtual 98, 3) := by decide +kernel
theorem dX5_excluding_92 : decode cX5_excluding 92 = .ok (.invokevirtual 102, 3) := by decide +kernel
theorem dX5_excluding_95 : decode cX5_excluding 95 = .ok (.goto 94, 3) := by decide +kernel
theorem dX5_excluding_98 : decode cX5_excluding 98 = .ok (.iload_n 3, 1) := by decide +kernel
theorem dX5_excluding_99 : decode cX5_excluding 99 = .ok (.iconst 5, 1) := by decide +kernel
theorem dX5_excluding_100 : decode cX5_excluding 100 = .ok (.if_icmp .ne 35, 3) := by decide +kernel
theorem dX5_excluding_103 : decode cX5_excluding 103 = .ok (.aload_n 0, 1) := by decide +kernel
theorem dX5_excluding_104 : decode cX5_excluding 104 = .ok (.iload 5, 2) := by decide +kernel
theorem dX5_excluding_106 : decode cX5_excluding 106 = .ok (.iconst 1, 1) := by decide +kernel
theorem dX5_excluding_107 : decode cX5_excluding 107 = .ok (.iload 6, 2) := by decide +kernel
theorem dX5_excluding_109 : decode cX5_excluding 109 = .ok (.iload 4, 2) := by decide +kernel
theorem dX5_excluding_111 : decode cX5_excluding 111 = .ok (.iload 7, 2) := by decide +kernel
theorem dX5_excluding_113 : decode cX5_excluding 113 = .ok (.iconst (-1), 1) := by decide +kernel
theorem dX5_excluding_114 : decode cX5_excluding 114 = .ok (.ixor, 1) := by decide +kernel
theorem dX5_excluding_115 : decode cX5_excluding 115 = .ok (.iand, 1) := by decide +kernel
theorem dX5_excluding_116 : decode cX5_excluding 116 = .ok (.ior, 1) := by decide +kernel
theorem dX5_excluding_117 : decode cX5_excluding 117 = .ok (.iload 7, 2) := by decide +kernel
theorem dX5_excluding_119 : decode cX5_excluding 119 = .ok (.invokevirtual 94, 3) := by decide +kernel
theorem dX5_excluding_122 : decode cX5_excluding 122 = .ok (.aload_n 0, 1) := by decide +kernel
theorem dX5_excluding_123 : decode cX5_excluding 123 = .ok (.iload 5, 2) := by decide +kernel
theorem dX5_excluding_125 : decode cX5_excluding 125 = .ok (.iload 8, 2) := by decide +kernel
theorem dX5_excluding_127 : decode cX5_excluding 127 = .ok (.iload 9, 2) := by decide +kernel
theorem dX5_excluding_129 : decode cX5_excluding 129 = .ok (.invokevirtual 102, 3) := by decide +kernel
theorem dX5_excluding_132 : decode cX5_excluding 132 = .ok (.goto 57, 3) := by decide +kernel
theorem dX5_excluding_135 : decode cX5_excluding 135 = .ok (.aload_n 0, 1) := by decide +kernel
theorem dX5_excluding_136 : decode cX5_excluding 136 = .ok (.iload 5, 2) := by decide +kernel
theorem dX5_excluding_138 : decode cX5_excluding 138 = .ok (.iconst 1, 1) := by decide +kernel
theorem dX5_excluding_139 : decode cX5_excluding 139 = .ok (.iload 4, 2) := by decide +kernel
theorem dX5_excluding_141 : decode cX5_excluding 141 = .ok (.iload 7, 2) := by decide +kernel
theorem dX5_excluding_143 : decode cX5_excluding 143 = .ok (.iconst (-1), 1) := by decide +kernel
theorem dX5_excluding_144 : decode cX5_excluding 144 = .ok (.ixor, 1) := by decide +kernel
theorem dX5_excluding_145 : decode cX5_excluding 145 = .ok (.iand, 1) := by decide +kernel
theorem dX5_excluding_146 : decode cX5_excluding 146 = .ok (.iload 7, 2) := by decide +kernel
theorem dX5_excluding_148 : decode cX5_excluding 148 = .ok (.iload 4, 2) := by decide +kernel
theorem dX5_excluding_150 : decode cX5_excluding 150 = .ok (.iand, 1) := by decide +kernel
theorem dX5_excluding_151 : decode cX5_excluding 151 = .ok (.invokevirtual 94, 3) := by decide +kernel
theorem dX5_excluding_154 : decode cX5_excluding 154 = .ok (.aload_n 0, 1) := by decide +kernel
theorem dX5_excluding_155 : decode cX5_excluding 155 = .ok (.iload 5, 2) := by decide +kernel
theorem dX5_excluding_157 : decode cX5_excluding 157 = .ok (.iload 8, 2) := by decide +kernel
theorem dX5_excluding_159 : decode cX5_excluding 159 = .ok (.iload_n 3, 1) := by decide +kernel
theorem dX5_excluding_160 : decode cX5_excluding 160 = .ok (.iconst 1, 1) := by decide +kernel
theorem dX5_excluding_161 : decode cX5_excluding 161 = .ok (.if_icmp .ne 11, 3) := by decide +kernel
theorem dX5_excluding_164 : decode cX5_excluding 164 = .ok (.aload_n 0, 1) := by decide +kernel
theorem dX5_excluding_165 : decode cX5_excluding 165 = .ok (.iload_n 1, 1) := by decide +kernel
theorem dX5_excluding_166 : decode cX5_excluding 166 = .ok (.invokevirtual 98, 3) := by decide +kernel
theorem dX5_excluding_169 : decode cX5_excluding 169 = .ok (.goto 5, 3) := by decide +kernel
theorem dX5_excluding_172 : decode cX5_excluding 172 = .ok (.iload 9, 2) := by decide +kernel
theorem dX5_excluding_174 : decode cX5_excluding 174 = .ok (.invokevirtual 102, 3) := by decide +kernel
theorem dX5_excluding_177 : decode cX5_excluding 177 = .ok (.aload_n 0, 1) := by decide +kernel
theorem dX5_excluding_178 : decode cX5_excluding 178 = .ok (.getfield 31, 3) := by decide +kernel
theorem dX5_excluding_181 : decode cX5_excluding 181 = .ok (.iload 5, 2) := by decide +kernel
theorem dX5_excluding_183 : decode cX5_excluding 183 = .ok (.aload_n 0, 1) := by decide +kernel
theorem dX5_excluding_184 : decode cX5_excluding 184 = .ok (.iload_n 1, 1) := by decide +kernel
theorem dX5_excluding_185 : decode cX5_excluding 185 = .ok (.invokevirtual 98, 3) := by decide +kernel
theorem dX5_excluding_188 : decode cX5_excluding 188 = .ok (.iastore, 1) := by decide +kernel
theorem dX5_excluding_189 : decode cX5_excluding 189 = .ok (.iload_n 3, 1) := by decide +kernel
theorem dX5_excluding_190 : decode cX5_excluding 190 = .ok (.iconst 2, 1) := by decide +kernel
theorem dX5_excluding_191 : decode cX5_excluding 191 = .ok (.if_icmp .ne 25, 3) := by decide +kernel
theorem dX5_excluding_194 : decode cX5_excluding 194 = .ok (.aload_n 0, 1) := by decide +kernel
theorem dX5_excluding_195 : decode cX5_excluding 195 = .ok (.iload_n 1, 1) := by decide +kernel
theorem dX5_excluding_196 : decode cX5_excluding 196 = .ok (.iload_n 2, 1) := by decide +kernel
theorem dX5_excluding_197 : decode cX5_excluding 197 = .ok (.iload 6, 2) := by decide +kernel
theorem dX5_excluding_199 : decode cX5_excluding 199 = .ok (.iload 4, 2) := by decide +kernel
theorem dX5_excluding_201 : decode cX5_excluding 201 = .ok (.iconst (-1), 1) := by decide +kernel
theorem dX5_excluding_202 : decode cX5_excluding 202 = .ok (.ixor, 1) := by decide +kernel
theorem dX5_excluding_203 : decode cX5_excluding 203 = .ok (.iand, 1) := by decide +kernel
theorem dX5_excluding_204 : decode cX5_excluding 204 = .ok (.invokevirtual 105, 3) := by decide +kernel
theorem dX5_excluding_207 : decode cX5_excluding 207 = .ok (.aload_n 0, 1) := by decide +kernel
theorem dX5_excluding_208 : decode cX5_excluding 208 = .ok (.iload_n 1, 1) := by decide +kernel
theorem dX5_excluding_209 : decode cX5_excluding 209 = .ok (.iload_n 2, 1) := by decide +kernel
theorem dX5_excluding_210 : decode cX5_excluding 210 = .ok (.invokevirtual 108, 3) := by decide +kernel
theorem dX5_excluding_213 : decode cX5_excluding 213 = .ok (.goto 26, 3) := by decide +kernel
theorem dX5_excluding_216 : decode cX5_excluding 216 = .ok (.iload_n 3, 1) := by decide +kernel
theorem dX5_excluding_217 : decode cX5_excluding 217 = .ok (.iconst 3, 1) := by decide +kernel
theorem dX5_excluding_218 : decode cX5_excluding 218 = .ok (.if_icmp .eq 8, 3) := by decide +kernel
theorem dX5_excluding_221 : decode cX5_excluding 221 = .ok (.iload_n 3, 1) := by decide +kernel
theorem dX5_excluding_222 : decode cX5_excluding 222 = .ok (.iconst 5, 1) := by decide +kernel
theorem dX5_excluding_223 : decode cX5_excluding 223 = .ok (.if_icmp .ne 16, 3) := by decide +kernel
theorem dX5_excluding_226 : decode cX5_excluding 226 = .ok (.aload_n 0, 1) := by decide +kernel
theorem dX5_excluding_227 : decode cX5_excluding 227 = .ok (.iload_n 1, 1) := by decide +kernel
theorem dX5_excluding_228 : decode cX5_excluding 228 = .ok (.iload_n 2, 1) := by decide +kernel
theorem dX5_excluding_229 : decode cX5_excluding 229 = .ok (.iload 4, 2) := by decide +kernel
theorem dX5_excluding_231 : decode cX5_excluding 231 = .ok (.iload 7, 2) := by decide +kernel
theorem dX5_excluding_233 : decode cX5_excluding 233 = .ok (.iconst (-1), 1) := by decide +kernel
theorem dX5_excluding_234 : decode cX5_excluding 234 = .ok (.ixor, 1) := by decide +kernel
theorem dX5_excluding_235 : decode cX5_excluding 235 = .ok (.iand, 1) := by decide +kernel
theorem dX5_excluding_236 : decode cX5_excluding 236 = .ok (.invokevirtual 105, 3) := by decide +kernel
theorem dX5_excluding_239 : decode cX5_excluding 239 = .ok (.return_, 1) := by decide +kernel
theorem dX5_reported_0 : decode cX5_reported 0 = .ok (.aload_n 0, 1) := by decide +kernel
theorem dX5_reported_1 : decode cX5_reported 1 = .ok (.getfield 72, 3) := by decide +kernel
theorem dX5_reported_4 : decode cX5_reported 4 = .ok (.istore 5, 2) := by decide +kernel
theorem dX5_reported_6 : decode cX5_reported 6 = .ok (.aload_n 0, 1) := by decide +kernel
theorem dX5_reported_7 : decode cX5_reported 7 = .ok (.getfield 28, 3) := by decide +kernel
theorem dX5_reported_10 : decode cX5_reported 10 = .ok (.bipush 8, 2) := by decide +kernel
theorem dX5_reported_12 : decode cX5_reported 12 = .ok (.iload_n 1, 1) := by decide +kernel
theorem dX5_reported_13 : decode cX5_reported 13 = .ok (.imul, 1) := by decide +kernel
theorem dX5_reported_14 : decode cX5_reported 14 = .ok (.iload_n 2, 1) := by decide +kernel
theorem dX5_reported_15 : decode cX5_reported 15 = .ok (.iadd, 1) := by decide +kernel
theorem dX5_reported_16 : decode cX5_reported 16 = .ok (.iaload, 1) := by decide +kernel
theorem dX5_reported_17 : decode cX5_reported 17 = .ok (.iconst 1, 1) := by decide +kernel
theorem dX5_reported_18 : decode cX5_reported 18 = .ok (.if_icmp .ne 15, 3) := by decide +kernel
theorem dX5_reported_21 : decode cX5_reported 21 = .ok (.aload_n 0, 1) := by decide +kernel
theorem dX5_reported_22 : decode cX5_reported 22 = .ok (.iload_n 1, 1) := by decide +kernel
theorem dX5_reported_23 : decode cX5_reported 23 = .ok (.iload_n 2, 1) := by decide +kernel
theorem dX5_reported_24 : decode cX5_reported 24 = .ok (.iload_n 3, 1) := by decide +kernel
theorem dX5_reported_25 : decode cX5_reported 25 = .ok (.iload 4, 2) := by decide +kernel
theorem dX5_reported_27 : decode cX5_reported 27 = .ok (.invokevirtual 111, 3) := by decide +kernel
theorem dX5_reported_30 : decode cX5_reported 30 = .ok (.goto 12, 3) := by decide +kernel
theorem dX5_reported_33 : decode cX5_reported 33 = .ok (.aload_n 0, 1) := by decide +kernel
theorem dX5_reported_34 : decode cX5_reported 34 = .ok (.iload_n 1, 1) := by decide +kernel
theorem dX5_reported_35 : decode cX5_reported 35 = .ok (.iload_n 2, 1) := by decide +kernel
theorem dX5_reported_36 : decode cX5_reported 36 = .ok (.iload_n 3, 1) := by decide +kernel
theorem dX5_reported_37 : decode cX5_reported 37 = .ok (.iload 4, 2) := by decide +kernel
theorem dX5_reported_39 : decode cX5_reported 39 = .ok (.invokevirtual 114, 3) := by decide +kernel
theorem dX5_reported_42 : decode cX5_reported 42 = .ok (.aload_n 0, 1) := by decide +kernel
theorem dX5_reported_43 : decode cX5_reported 43 = .ok (.getfield 72, 3) := by decide +kernel
theorem dX5_reported_46 : decode cX5_reported 46 = .ok (.iload 5, 2) := by decide +kernel
theorem dX5_reported_48 : decode cX5_reported 48 = .ok (.isub, 1) := by decide +kernel
theorem dX5_reported_49 : decode cX5_reported 49 = .ok (.ireturn, 1) := by decide +kernel
theorem dX5_settings_0 : decode cX5_settings 0 = .ok (.aload_n 0, 1) := by decide +kernel
theorem dX5_settings_1 : decode cX5_settings 1 = .ok (.aload_n 0, 1) := by decide +kernel
theorem dX5_settings_2 : decode cX5_settings 2 = .ok (.iload_n 1, 1) := by decide +kernel
theorem dX5_settings_3 : decode cX5_settings 3 = .ok (.invokevirtual 117, 3) := by decide +kernel
theorem dX5_settings_6 : decode cX5_settings 6 = .ok (.ifCond .ne 7, 3) := by decide +kernel
theorem dX5_settings_9 : decode cX5_settings 9 = .ok (.iconst 1, 1) := by decide +kernel
theorem dX5_settings_10 : decode cX5_settings 10 = .ok (.goto 39, 3) := by decide +kernel
theorem dX5_settings_13 : decode cX5_settings 13 = .ok (.iload_n 2, 1) := by decide +kernel
theorem dX5_settings_14 : decode cX5_settings 14 = .ok (.iconst 1, 1) := by decide +kernel
theorem dX5_settings_15 : decode cX5_settings 15 = .ok (.bipush 7, 2) := by decide +kernel
theorem dX5_settings_17 : decode cX5_settings 17 = .ok (.invokestatic 120, 3) := by decide +kernel
theorem dX5_settings_20 : decode cX5_settings 20 = .ok (.ifCond .eq 28, 3) := by decide +kernel
theorem dX5_settings_23 : decode cX5_settings 23 = .ok (.iload_n 3, 1) := by decide +kernel
theorem dX5_settings_24 : decode cX5_settings 24 = .ok (.iconst 1, 1) := by decide +kernel
theorem dX5_settings_25 : decode cX5_settings 25 = .ok (.sipush 200, 3) := by decide +kernel
theorem dX5_settings_28 : decode cX5_settings 28 = .ok (.invokestatic 120, 3) := by decide +kernel
theorem dX5_settings_31 : decode cX5_settings 31 = .ok (.ifCond .eq 17, 3) := by decide +kernel
theorem dX5_settings_34 : decode cX5_settings 34 = .ok (.iload 4, 2) := by decide +kernel
theorem dX5_settings_36 : decode cX5_settings 36 = .ok (.iconst 1, 1) := by decide +kernel
theorem dX5_settings_37 : decode cX5_settings 37 = .ok (.iload_n 3, 1) := by decide +kernel
theorem dX5_settings_38 : decode cX5_settings 38 = .ok (.invokestatic 120, 3) := by decide +kernel
theorem dX5_settings_41 : decode cX5_settings 41 = .ok (.ifCond .eq 7, 3) := by decide +kernel
theorem dX5_settings_44 : decode cX5_settings 44 = .ok (.iconst 0, 1) := by decide +kernel
theorem dX5_settings_45 : decode cX5_settings 45 = .ok (.goto 4, 3) := by decide +kernel
theorem dX5_settings_48 : decode cX5_settings 48 = .ok (.iconst 2, 1) := by decide +kernel
theorem dX5_settings_49 : decode cX5_settings 49 = .ok (.putfield 66, 3) := by decide +kernel
theorem dX5_settings_52 : decode cX5_settings 52 = .ok (.aload_n 0, 1) := by decide +kernel
theorem dX5_settings_53 : decode cX5_settings 53 = .ok (.getfield 66, 3) := by decide +kernel
theorem dX5_settings_56 : decode cX5_settings 56 = .ok (.ifCond .le 5, 3) := by decide +kernel
theorem dX5_settings_59 : decode cX5_settings 59 = .ok (.iconst 0, 1) := by decide +kernel
theorem dX5_settings_60 : decode cX5_settings 60 = .ok (.ireturn, 1) := by decide +kernel
theorem dX5_settings_61 : decode cX5_settings 61 = .ok (.aload_n 0, 1) := by decide +kernel
theorem dX5_settings_62 : decode cX5_settings 62 = .ok (.getfield 7, 3) := by decide +kernel
theorem dX5_settings_65 : decode cX5_settings 65 = .ok (.iload_n 1, 1) := by decide +kernel
theorem dX5_settings_66 : decode cX5_settings 66 = .ok (.iload_n 2, 1) := by decide +kernel
theorem dX5_settings_67 : decode cX5_settings 67 = .ok (.iastore, 1) := by decide +kernel
theorem dX5_settings_68 : decode cX5_settings 68 = .ok (.aload_n 0, 1) := by decide +kernel
theorem dX5_settings_69 : decode cX5_settings 69 = .ok (.getfield 13, 3) := by decide +kernel
theorem dX5_settings_72 : decode cX5_settings 72 = .ok (.iload_n 1, 1) := by decide +kernel
theorem dX5_settings_73 : decode cX5_settings 73 = .ok (.iload_n 3, 1) := by decide +kernel
theorem dX5_settings_74 : decode cX5_settings 74 = .ok (.iastore, 1) := by decide +kernel
theorem dX5_settings_75 : decode cX5_settings 75 = .ok (.aload_n 0, 1) := by decide +kernel
theorem dX5_settings_76 : decode cX5_settings 76 = .ok (.getfield 16, 3) := by decide +kernel
theorem dX5_settings_79 : decode cX5_settings 79 = .ok (.iload_n 1, 1) := by decide +kernel
theorem dX5_settings_80 : decode cX5_settings 80 = .ok (.iload 4, 2) := by decide +kernel
theorem dX5_settings_82 : decode cX5_settings 82 = .ok (.iastore, 1) := by decide +kernel
theorem dX5_settings_83 : decode cX5_settings 83 = .ok (.aload_n 0, 1) := by decide +kernel
theorem dX5_settings_84 : decode cX5_settings 84 = .ok (.getfield 25, 3) := by decide +kernel
theorem dX5_settings_87 : decode cX5_settings 87 = .ok (.iload_n 1, 1) := by decide +kernel
theorem dX5_settings_88 : decode cX5_settings 88 = .ok (.iload_n 3, 1) := by decide +kernel
theorem dX5_settings_89 : decode cX5_settings 89 = .ok (.iastore, 1) := by decide +kernel
theorem dX5_settings_90 : decode cX5_settings 90 = .ok (.aload_n 0, 1) := by decide +kernel
theorem dX5_settings_91 : decode cX5_settings 91 = .ok (.iload_n 1, 1) := by decide +kernel
theorem dX5_settings_92 : decode cX5_settings 92 = .ok (.invokevirtual 98, 3) := by decide +kernel
theorem dX5_settings_95 : decode cX5_settings 95 = .ok (.ireturn, 1) := by decide +kernel
theorem dX5_report_0 : decode cX5_report 0 = .ok (.aload_n 0, 1) := by decide +kernel
theorem dX5_report_1 : decode cX5_report 1 = .ok (.aload_n 0, 1) := by decide +kernel
theorem dX5_report_2 : decode cX5_report 2 = .ok (.iload_n 1, 1) := by decide +kernel
theorem dX5_report_3 : decode cX5_report 3 = .ok (.invokevirtual 117, 3) := by decide +kernel
theorem dX5_report_6 : decode cX5_report 6 = .ok (.ifCond .eq 13, 3) := by decide +kernel
theorem dX5_report_9 : decode cX5_report 9 = .ok (.iload_n 2, 1) := by decide +kernel
theorem dX5_report_10 : decode cX5_report 10 = .ok (.iconst 0, 1) := by decide +kernel
theorem dX5_report_11 : decode cX5_report 11 = .ok (.bipush 7, 2) := by decide +kernel
theorem dX5_report_13 : decode cX5_report 13 = .ok (.invokestatic 120, 3) := by decide +kernel
theorem dX5_report_16 : decode cX5_report 16 = .ok (.ifCond .ne 7, 3) := by decide +kernel
theorem dX5_report_19 : decode cX5_report 19 = .ok (.iconst 1, 1) := by decide +kernel
theorem dX5_report_20 : decode cX5_report 20 = .ok (.goto 28, 3) := by decide +kernel
theorem dX5_report_23 : decode cX5_report 23 = .ok (.iload_n 3, 1) := by decide +kernel
theorem dX5_report_24 : decode cX5_report 24 = .ok (.iconst 0, 1) := by decide +kernel
theorem dX5_report_25 : decode cX5_report 25 = .ok (.iconst 5, 1) := by decide +kernel
theorem dX5_report_26 : decode cX5_report 26 = .ok (.invokestatic 120, 3) := by decide +kernel
theorem dX5_report_29 : decode cX5_report 29 = .ok (.ifCond .eq 18, 3) := by decide +kernel
theorem dX5_report_32 : decode cX5_report 32 = .ok (.iload 4, 2) := by decide +kernel
theorem dX5_report_34 : decode cX5_report 34 = .ok (.iconst 0, 1) := by decide +kernel
theorem dX5_report_35 : decode cX5_report 35 = .ok (.ldc 124, 2) := by decide +kernel
theorem dX5_report_37 : decode cX5_report 37 = .ok (.invokestatic 120, 3) := by decide +kernel
theorem dX5_report_40 : decode cX5_report 40 = .ok (.ifCond .eq 7, 3) := by decide +kernel
theorem dX5_report_43 : decode cX5_report 43 = .ok (.iconst 0, 1) := by decide +kernel
theorem dX5_report_44 : decode cX5_report 44 = .ok (.goto 4, 3) := by decide +kernel
theorem dX5_report_47 : decode cX5_report 47 = .ok (.iconst 2, 1) := by decide +kernel
theorem dX5_report_48 : decode cX5_report 48 = .ok (.putfield 66, 3) := by decide +kernel
theorem dX5_report_51 : decode cX5_report 51 = .ok (.aload_n 0, 1) := by decide +kernel
theorem dX5_report_52 : decode cX5_report 52 = .ok (.getfield 66, 3) := by decide +kernel
theorem dX5_report_55 : decode cX5_report 55 = .ok (.ifCond .le 7, 3) := by decide +kernel
theorem dX5_report_58 : decode cX5_report 58 = .ok (.iconst 0, 1) := by decide +kernel
theorem dX5_report_59 : decode cX5_report 59 = .ok (.goto 12, 3) := by decide +kernel
theorem dX5_report_62 : decode cX5_report 62 = .ok (.aload_n 0, 1) := by decide +kernel
theorem dX5_report_63 : decode cX5_report 63 = .ok (.iload_n 1, 1) := by decide +kernel
theorem dX5_report_64 : decode cX5_report 64 = .ok (.iload_n 2, 1) := by decide +kernel
theorem dX5_report_65 : decode cX5_report 65 = .ok (.iload_n 3, 1) := by decide +kernel
theorem dX5_report_66 : decode cX5_report 66 = .ok (.iload 4, 2) := by decide +kernel
theorem dX5_report_68 : decode cX5_report 68 = .ok (.invokevirtual 125, 3) := by decide +kernel
theorem dX5_report_71 : decode cX5_report 71 = .ok (.ireturn, 1) := by decide +kernel
theorem dX5_query_0 : decode cX5_query 0 = .ok (.aload_n 0, 1) := by decide +kernel
theorem dX5_query_1 : decode cX5_query 1 = .ok (.aload_n 0, 1) := by decide +kernel
theorem dX5_query_2 : decode cX5_query 2 = .ok (.iload_n 1, 1) := by decide +kernel
theorem dX5_query_3 : decode cX5_query 3 = .ok (.invokevirtual 117, 3) := by decide +kernel
theorem dX5_query_6 : decode cX5_query 6 = .ok (.ifCond .eq 13, 3) := by decide +kernel
theorem dX5_query_9 : decode cX5_query 9 = .ok (.iload_n 3, 1) := by decide +kernel
theorem dX5_query_10 : decode cX5_query 10 = .ok (.iconst (-1), 1) := by decide +kernel
theorem dX5_query_11 : decode cX5_query 11 = .ok (.bipush 7, 2) := by decide +kernel
theorem dX5_query_13 : decode cX5_query 13 = .ok (.invokestatic 120, 3) := by decide +kernel
theorem dX5_query_16 : decode cX5_query 16 = .ok (.ifCond .ne 7, 3) := by decide +kernel
theorem dX5_query_19 : decode cX5_query 19 = .ok (.iconst 1, 1) := by decide +kernel
theorem dX5_query_20 : decode cX5_query 20 = .ok (.goto 30, 3) := by decide +kernel
theorem dX5_query_23 : decode cX5_query 23 = .ok (.iload_n 2, 1) := by decide +kernel
theorem dX5_query_24 : decode cX5_query 24 = .ok (.iconst 0, 1) := by decide +kernel
theorem dX5_query_25 : decode cX5_query 25 = .ok (.sipush 999, 3) := by decide +kernel
theorem dX5_query_28 : decode cX5_query 28 = .ok (.invokestatic 120, 3) := by decide +kernel
theorem dX5_query_31 : decode cX5_query 31 = .ok (.ifCond .eq 18, 3) := by decide +kernel
theorem dX5_query_34 : decode cX5_query 34 = .ok (.iload 4, 2) := by decide +kernel
theorem dX5_query_36 : decode cX5_query 36 = .ok (.iconst 0, 1) := by decide +kernel
theorem dX5_query_37 : decode cX5_query 37 = .ok (.ldc 124, 2) := by decide +kernel
theorem dX5_query_39 : decode cX5_query 39 = .ok (.invokestatic 120, 3) := by decide +kernel
theorem dX5_query_42 : decode cX5_query 42 = .ok (.ifCond .eq 7, 3) := by decide +kernel
theorem dX5_query_45 : decode cX5_query 45 = .ok (.iconst 0, 1) := by decide +kernel
theorem dX5_query_46 : decode cX5_query 46 = .ok (.goto 4, 3) := by decide +kernel
theorem dX5_query_49 : decode cX5_query 49 = .ok (.iconst 2, 1) := by decide +kernel
theorem dX5_query_50 : decode cX5_query 50 = .ok (.putfield 66, 3) := by decide +kernel
theorem dX5_query_53 : decode cX5_query 53 = .ok (.aload_n 0, 1) := by decide +kernel
theorem dX5_query_54 : decode cX5_query 54 = .ok (.getfield 66, 3) := by decide +kernel
theorem dX5_query_57 : decode cX5_query 57 = .ok (.ifCond .le 5, 3) := by decide +kernel
theorem dX5_query_60 : decode cX5_query 60 = .ok (.iconst 0, 1) := by decide +kernel
theorem dX5_query_61 : decode cX5_query 61 = .ok (.ireturn, 1) := by decide +kernel
theorem dX5_query_62 : decode cX5_query 62 = .ok (.iload_n 2, 1) := by decide +kernel
theorem dX5_query_63 : decode cX5_query 63 = .ok (.sipush 500, 3) := by decide +kernel
theorem dX5_query_66 : decode cX5_query 66 = .ok (.if_icmp .ge 108, 3) := by decide +kernel
theorem dX5_query_69 : decode cX5_query 69 = .ok (.aload_n 0, 1) := by decide +kernel
theorem dX5_query_70 : decode cX5_query 70 = .ok (.getfield 19, 3) := by decide +kernel
theorem dX5_query_73 : decode cX5_query 73 = .ok (.iload_n 1, 1) := by decide +kernel
theorem dX5_query_74 : decode cX5_query 74 = .ok (.aload_n 0, 1) := by decide +kernel
theorem dX5_query_75 : decode cX5_query 75 = .ok (.getfield 22, 3) := by decide +kernel
theorem dX5_query_78 : decode cX5_query 78 = .ok (.iload_n 1, 1) := by decide +kernel
theorem dX5_query_79 : decode cX5_query 79 = .ok (.iaload, 1) := by decide +kernel
theorem dX5_query_80 : decode cX5_query 80 = .ok (.ifCond .eq 13, 3) := by decide +kernel
theorem dX5_query_83 : decode cX5_query 83 = .ok (.iload_n 2, 1) := by decide +kernel
theorem dX5_query_84 : decode cX5_query 84 = .ok (.aload_n 0, 1) := by decide +kernel
theorem dX5_query_85 : decode cX5_query 85 = .ok (.getfield 19, 3) := by decide +kernel
theorem dX5_query_88 : decode cX5_query 88 = .ok (.iload_n 1, 1) := by decide +kernel
theorem dX5_query_89 : decode cX5_query 89 = .ok (.iaload, 1) := by decide +kernel
theorem dX5_query_90 : decode cX5_query 90 = .ok (.if_icmp .ge 7, 3) := by decide +kernel
theorem dX5_query_93 : decode cX5_query 93 = .ok (.iload_n 2, 1) := by decide +kernel
theorem dX5_query_94 : decode cX5_query 94 = .ok (.goto 9, 3) := by decide +kernel
theorem dX5_query_97 : decode cX5_query 97 = .ok (.aload_n 0, 1) := by decide +kernel
theorem dX5_query_98 : decode cX5_query 98 = .ok (.getfield 19, 3) := by decide +kernel
theorem dX5_query_101 : decode cX5_query 101 = .ok (.iload_n 1, 1) := by decide +kernel
theorem dX5_query_102 : decode cX5_query 102 = .ok (.iaload, 1) := by decide +kernel
theorem dX5_query_103 : decode cX5_query 103 = .ok (.iastore, 1) := by decide +kernel
theorem dX5_query_104 : decode cX5_query 104 = .ok (.aload_n 0, 1) := by decide +kernel
theorem dX5_query_105 : decode cX5_query 105 = .ok (.getfield 22, 3) := by decide +kernel
theorem dX5_query_108 : decode cX5_query 108 = .ok (.iload_n 1, 1) := by decide +kernel
theorem dX5_query_109 : decode cX5_query 109 = .ok (.aload_n 0, 1) := by decide +kernel
theorem dX5_query_110 : decode cX5_query 110 = .ok (.getfield 7, 3) := by decide +kernel
theorem dX5_query_113 : decode cX5_query 113 = .ok (.iload_n 1, 1) := by decide +kernel
theorem dX5_query_114 : decode cX5_query 114 = .ok (.iaload, 1) := by decide +kernel
theorem dX5_query_115 : decode cX5_query 115 = .ok (.aload_n 0, 1) := by decide +kernel
theorem dX5_query_116 : decode cX5_query 116 = .ok (.getfield 13, 3) := by decide +kernel
theorem dX5_query_119 : decode cX5_query 119 = .ok (.iload_n 1, 1) := by decide +kernel
theorem dX5_query_120 : decode cX5_query 120 = .ok (.iaload, 1) := by decide +kernel
theorem dX5_query_121 : decode cX5_query 121 = .ok (.imul, 1) := by decide +kernel
theorem dX5_query_122 : decode cX5_query 122 = .ok (.aload_n 0, 1) := by decide +kernel
theorem dX5_query_123 : decode cX5_query 123 = .ok (.getfield 16, 3) := by decide +kernel
theorem dX5_query_126 : decode cX5_query 126 = .ok (.iload_n 1, 1) := by decide +kernel
theorem dX5_query_127 : decode cX5_query 127 = .ok (.iaload, 1) := by decide +kernel
theorem dX5_query_128 : decode cX5_query 128 = .ok (.iconst 2, 1) := by decide +kernel
theorem dX5_query_129 : decode cX5_query 129 = .ok (.idiv, 1) := by decide +kernel
theorem dX5_query_130 : decode cX5_query 130 = .ok (.iadd, 1) := by decide +kernel
theorem dX5_query_131 : decode cX5_query 131 = .ok (.iastore, 1) := by decide +kernel
theorem dX5_query_132 : decode cX5_query 132 = .ok (.iload_n 3, 1) := by decide +kernel
theorem dX5_query_133 : decode cX5_query 133 = .ok (.iconst (-1), 1) := by decide +kernel
theorem dX5_query_134 : decode cX5_query 134 = .ok (.if_icmp .eq 40, 3) := by decide +kernel
theorem dX5_query_137 : decode cX5_query 137 = .ok (.iload 5, 2) := by decide +kernel
theorem dX5_query_139 : decode cX5_query 139 = .ok (.ifCond .ne 35, 3) := by decide +kernel
theorem dX5_query_142 : decode cX5_query 142 = .ok (.iload 4, 2) := by decide +kernel
theorem dX5_query_144 : decode cX5_query 144 = .ok (.ifCond .eq 19, 3) := by decide +kernel
theorem dX5_query_147 : decode cX5_query 147 = .ok (.aload_n 0, 1) := by decide +kernel
theorem dX5_query_148 : decode cX5_query 148 = .ok (.iload_n 1, 1) := by decide +kernel
theorem dX5_query_149 : decode cX5_query 149 = .ok (.bipush 8, 2) := by decide +kernel
theorem dX5_query_151 : decode cX5_query 151 = .ok (.iload_n 1, 1) := by decide +kernel
theorem dX5_query_152 : decode cX5_query 152 = .ok (.imul, 1) := by decide +kernel
theorem dX5_query_153 : decode cX5_query 153 = .ok (.iload_n 3, 1) := by decide +kernel
theorem dX5_query_154 : decode cX5_query 154 = .ok (.iadd, 1) := by decide +kernel
theorem dX5_query_155 : decode cX5_query 155 = .ok (.iload 4, 2) := by decide +kernel
theorem dX5_query_157 : decode cX5_query 157 = .ok (.invokevirtual 83, 3) := by decide +kernel
theorem dX5_query_160 : decode cX5_query 160 = .ok (.goto 14, 3) := by decide +kernel
theorem dX5_query_163 : decode cX5_query 163 = .ok (.aload_n 0, 1) := by decide +kernel
theorem dX5_query_164 : decode cX5_query 164 = .ok (.iload_n 1, 1) := by decide +kernel
theorem dX5_query_165 : decode cX5_query 165 = .ok (.bipush 8, 2) := by decide +kernel
theorem dX5_query_167 : decode cX5_query 167 = .ok (.iload_n 1, 1) := by decide +kernel
theorem dX5_query_168 : decode cX5_query 168 = .ok (.imul, 1) := by decide +kernel
theorem dX5_query_169 : decode cX5_query 169 = .ok (.iload_n 3, 1) := by decide +kernel
theorem dX5_query_170 : decode cX5_query 170 = .ok (.iadd, 1) := by decide +kernel
theorem dX5_query_171 : decode cX5_query 171 = .ok (.invokevirtual 86, 3) := by decide +kernel
theorem dX5_query_174 : decode cX5_query 174 = .ok (.aload_n 0, 1) := by decide +kernel
theorem dX5_query_175 : decode cX5_query 175 = .ok (.iload_n 1, 1) := by decide +kernel
theorem dX5_query_176 : decode cX5_query 176 = .ok (.invokevirtual 75, 3) := by decide +kernel
theorem dX5_query_179 : decode cX5_query 179 = .ok (.ireturn, 1) := by decide +kernel
theorem dX5_tickRecord_0 : decode cX5_tickRecord 0 = .ok (.aload_n 0, 1) := by decide +kernel
theorem dX5_tickRecord_1 : decode cX5_tickRecord 1 = .ok (.getfield 31, 3) := by decide +kernel
theorem dX5_tickRecord_4 : decode cX5_tickRecord 4 = .ok (.iload_n 1, 1) := by decide +kernel
theorem dX5_tickRecord_5 : decode cX5_tickRecord 5 = .ok (.iaload, 1) := by decide +kernel
theorem dX5_tickRecord_6 : decode cX5_tickRecord 6 = .ok (.iconst 1, 1) := by decide +kernel
theorem dX5_tickRecord_7 : decode cX5_tickRecord 7 = .ok (.if_icmp .ne 7, 3) := by decide +kernel
theorem dX5_tickRecord_10 : decode cX5_tickRecord 10 = .ok (.iconst 1, 1) := by decide +kernel
theorem dX5_tickRecord_11 : decode cX5_tickRecord 11 = .ok (.goto 4, 3) := by decide +kernel
theorem dX5_tickRecord_14 : decode cX5_tickRecord 14 = .ok (.iconst 0, 1) := by decide +kernel
theorem dX5_tickRecord_15 : decode cX5_tickRecord 15 = .ok (.istore_n 2, 1) := by decide +kernel
theorem dX5_tickRecord_16 : decode cX5_tickRecord 16 = .ok (.aload_n 0, 1) := by decide +kernel
theorem dX5_tickRecord_17 : decode cX5_tickRecord 17 = .ok (.getfield 31, 3) := by decide +kernel
theorem dX5_tickRecord_20 : decode cX5_tickRecord 20 = .ok (.iload_n 1, 1) := by decide +kernel
theorem dX5_tickRecord_21 : decode cX5_tickRecord 21 = .ok (.aload_n 0, 1) := by decide +kernel
theorem dX5_tickRecord_22 : decode cX5_tickRecord 22 = .ok (.getfield 31, 3) := by decide +kernel
theorem dX5_tickRecord_25 : decode cX5_tickRecord 25 = .ok (.iload_n 1, 1) := by decide +kernel
theorem dX5_tickRecord_26 : decode cX5_tickRecord 26 = .ok (.iaload, 1) := by decide +kernel
theorem dX5_tickRecord_27 : decode cX5_tickRecord 27 = .ok (.ifCond .le 14, 3) := by decide +kernel
theorem dX5_tickRecord_30 : decode cX5_tickRecord 30 = .ok (.aload_n 0, 1) := by decide +kernel
theorem dX5_tickRecord_31 : decode cX5_tickRecord 31 = .ok (.getfield 31, 3) := by decide +kernel
theorem dX5_tickRecord_34 : decode cX5_tickRecord 34 = .ok (.iload_n 1, 1) := by decide +kernel
theorem dX5_tickRecord_35 : decode cX5_tickRecord 35 = .ok (.iaload, 1) := by decide +kernel
theorem dX5_tickRecord_36 : decode cX5_tickRecord 36 = .ok (.iconst 1, 1) := by decide +kernel
theorem dX5_tickRecord_37 : decode cX5_tickRecord 37 = .ok (.isub, 1) := by decide +kernel
theorem dX5_tickRecord_38 : decode cX5_tickRecord 38 = .ok (.goto 4, 3) := by decide +kernel
theorem dX5_tickRecord_41 : decode cX5_tickRecord 41 = .ok (.iconst 0, 1) := by decide +kernel
theorem dX5_tickRecord_42 : decode cX5_tickRecord 42 = .ok (.iastore, 1) := by decide +kernel
theorem dX5_tickRecord_43 : decode cX5_tickRecord 43 = .ok (.iconst 0, 1) := by decide +kernel
theorem dX5_tickRecord_44 : decode cX5_tickRecord 44 = .ok (.istore_n 3, 1) := by decide +kernel
theorem dX5_tickRecord_45 : decode cX5_tickRecord 45 = .ok (.iconst 0, 1) := by decide +kernel
theorem dX5_tickRecord_46 : decode cX5_tickRecord 46 = .ok (.istore 4, 2) := by decide +kernel
theorem dX5_tickRecord_48 : decode cX5_tickRecord 48 = .ok (.iload 4, 2) := by decide +kernel
theorem dX5_tickRecord_50 : decode cX5_tickRecord 50 = .ok (.bipush 16, 2) := by decide +kernel
theorem dX5_tickRecord_52 : decode cX5_tickRecord 52 = .ok (.if_icmp .ge 65, 3) := by decide +kernel
theorem dX5_tickRecord_55 : decode cX5_tickRecord 55 = .ok (.aload_n 0, 1) := by decide +kernel
theorem dX5_tickRecord_56 : decode cX5_tickRecord 56 = .ok (.getfield 37, 3) := by decide +kernel
theorem dX5_tickRecord_59 : decode cX5_tickRecord 59 = .ok (.bipush 16, 2) := by decide +kernel
theorem dX5_tickRecord_61 : decode cX5_tickRecord 61 = .ok (.iload_n 1, 1) := by decide +kernel
theorem dX5_tickRecord_62 : decode cX5_tickRecord 62 = .ok (.imul, 1) := by decide +kernel
theorem dX5_tickRecord_63 : decode cX5_tickRecord 63 = .ok (.iload 4, 2) := by decide +kernel
theorem dX5_tickRecord_65 : decode cX5_tickRecord 65 = .ok (.iadd, 1) := by decide +kernel
theorem dX5_tickRecord_66 : decode cX5_tickRecord 66 = .ok (.iaload, 1) := by decide +kernel
theorem dX5_tickRecord_67 : decode cX5_tickRecord 67 = .ok (.istore 5, 2) := by decide +kernel
theorem dX5_tickRecord_69 : decode cX5_tickRecord 69 = .ok (.iload 5, 2) := by decide +kernel
theorem dX5_tickRecord_71 : decode cX5_tickRecord 71 = .ok (.iconst 1, 1) := by decide +kernel
theorem dX5_tickRecord_72 : decode cX5_tickRecord 72 = .ok (.if_icmp .ne 12, 3) := by decide +kernel
theorem dX5_tickRecord_75 : decode cX5_tickRecord 75 = .ok (.iload_n 3, 1) := by decide +kernel
theorem dX5_tickRecord_76 : decode cX5_tickRecord 76 = .ok (.iconst 1, 1) := by decide +kernel
theorem dX5_tickRecord_77 : decode cX5_tickRecord 77 = .ok (.iload 4, 2) := by decide +kernel
theorem dX5_tickRecord_79 : decode cX5_tickRecord 79 = .ok (.ishl, 1) := by decide +kernel
theorem dX5_tickRecord_80 : decode cX5_tickRecord 80 = .ok (.iadd, 1) := by decide +kernel
theorem dX5_tickRecord_81 : decode cX5_tickRecord 81 = .ok (.goto 4, 3) := by decide +kernel
theorem dX5_tickRecord_84 : decode cX5_tickRecord 84 = .ok (.iload_n 3, 1) := by decide +kernel
theorem dX5_tickRecord_85 : decode cX5_tickRecord 85 = .ok (.istore_n 3, 1) := by decide +kernel
theorem dX5_tickRecord_86 : decode cX5_tickRecord 86 = .ok (.aload_n 0, 1) := by decide +kernel
theorem dX5_tickRecord_87 : decode cX5_tickRecord 87 = .ok (.getfield 37, 3) := by decide +kernel
theorem dX5_tickRecord_90 : decode cX5_tickRecord 90 = .ok (.bipush 16, 2) := by decide +kernel
theorem dX5_tickRecord_92 : decode cX5_tickRecord 92 = .ok (.iload_n 1, 1) := by decide +kernel
theorem dX5_tickRecord_93 : decode cX5_tickRecord 93 = .ok (.imul, 1) := by decide +kernel
theorem dX5_tickRecord_94 : decode cX5_tickRecord 94 = .ok (.iload 4, 2) := by decide +kernel
theorem dX5_tickRecord_96 : decode cX5_tickRecord 96 = .ok (.iadd, 1) := by decide +kernel
theorem dX5_tickRecord_97 : decode cX5_tickRecord 97 = .ok (.iload 5, 2) := by decide +kernel
theorem dX5_tickRecord_99 : decode cX5_tickRecord 99 = .ok (.ifCond .le 10, 3) := by decide +kernel
theorem dX5_tickRecord_102 : decode cX5_tickRecord 102 = .ok (.iload 5, 2) := by decide +kernel
theorem dX5_tickRecord_104 : decode cX5_tickRecord 104 = .ok (.iconst 1, 1) := by decide +kernel
theorem dX5_tickRecord_105 : decode cX5_tickRecord 105 = .ok (.isub, 1) := by decide +kernel
theorem dX5_tickRecord_106 : decode cX5_tickRecord 106 = .ok (.goto 4, 3) := by decide +kernel
theorem dX5_tickRecord_109 : decode cX5_tickRecord 109 = .ok (.iconst 0, 1) := by decide +kernel
theorem dX5_tickRecord_110 : decode cX5_tickRecord 110 = .ok (.iastore, 1) := by decide +kernel
theorem dX5_tickRecord_111 : decode cX5_tickRecord 111 = .ok (.iinc 4 1, 3) := by decide +kernel
theorem dX5_tickRecord_114 : decode cX5_tickRecord 114 = .ok (.goto (-66), 3) := by decide +kernel
theorem dX5_tickRecord_117 : decode cX5_tickRecord 117 = .ok (.aload_n 0, 1) := by decide +kernel
theorem dX5_tickRecord_118 : decode cX5_tickRecord 118 = .ok (.getfield 28, 3) := by decide +kernel
theorem dX5_tickRecord_121 : decode cX5_tickRecord 121 = .ok (.iload_n 1, 1) := by decide +kernel
theorem dX5_tickRecord_122 : decode cX5_tickRecord 122 = .ok (.iaload, 1) := by decide +kernel
theorem dX5_tickRecord_123 : decode cX5_tickRecord 123 = .ok (.iconst (-1), 1) := by decide +kernel
theorem dX5_tickRecord_124 : decode cX5_tickRecord 124 = .ok (.if_icmp .ne 4, 3) := by decide +kernel
theorem dX5_tickRecord_127 : decode cX5_tickRecord 127 = .ok (.return_, 1) := by decide +kernel
theorem dX5_tickRecord_128 : decode cX5_tickRecord 128 = .ok (.aload_n 0, 1) := by decide +kernel
theorem dX5_tickRecord_129 : decode cX5_tickRecord 129 = .ok (.iload_n 1, 1) := by decide +kernel
theorem dX5_tickRecord_130 : decode cX5_tickRecord 130 = .ok (.iconst 1, 1) := by decide +kernel
theorem dX5_tickRecord_131 : decode cX5_tickRecord 131 = .ok (.invokevirtual 90, 3) := by decide +kernel
theorem dX5_tickRecord_134 : decode cX5_tickRecord 134 = .ok (.istore 4, 2) := by decide +kernel
theorem dX5_tickRecord_136 : decode cX5_tickRecord 136 = .ok (.aload_n 0, 1) := by decide +kernel
theorem dX5_tickRecord_137 : decode cX5_tickRecord 137 = .ok (.iload_n 1, 1) := by decide +kernel
theorem dX5_tickRecord_138 : decode cX5_tickRecord 138 = .ok (.iconst 2, 1) := by decide +kernel
theorem dX5_tickRecord_139 : decode cX5_tickRecord 139 = .ok (.invokevirtual 90, 3) := by decide +kernel
theorem dX5_tickRecord_142 : decode cX5_tickRecord 142 = .ok (.istore 5, 2) := by decide +kernel
theorem dX5_tickRecord_144 : decode cX5_tickRecord 144 = .ok (.aload_n 0, 1) := by decide +kernel
theorem dX5_tickRecord_145 : decode cX5_tickRecord 145 = .ok (.getfield 28, 3) := by decide +kernel
theorem dX5_tickRecord_148 : decode cX5_tickRecord 148 = .ok (.iload_n 1, 1) := by decide +kernel
theorem dX5_tickRecord_149 : decode cX5_tickRecord 149 = .ok (.iaload, 1) := by decide +kernel
theorem dX5_tickRecord_150 : decode cX5_tickRecord 150 = .ok (.iconst 1, 1) := by decide +kernel
theorem dX5_tickRecord_151 : decode cX5_tickRecord 151 = .ok (.if_icmp .ne 26, 3) := by decide +kernel
theorem dX5_tickRecord_154 : decode cX5_tickRecord 154 = .ok (.iload_n 2, 1) := by decide +kernel
theorem dX5_tickRecord_155 : decode cX5_tickRecord 155 = .ok (.ifCond .ne 22, 3) := by decide +kernel
theorem dX5_tickRecord_158 : decode cX5_tickRecord 158 = .ok (.aload_n 0, 1) := by decide +kernel
theorem dX5_tickRecord_159 : decode cX5_tickRecord 159 = .ok (.iload_n 1, 1) := by decide +kernel
theorem dX5_tickRecord_160 : decode cX5_tickRecord 160 = .ok (.iconst 1, 1) := by decide +kernel
theorem dX5_tickRecord_161 : decode cX5_tickRecord 161 = .ok (.iload 4, 2) := by decide +kernel
theorem dX5_tickRecord_163 : decode cX5_tickRecord 163 = .ok (.iload_n 3, 1) := by decide +kernel
theorem dX5_tickRecord_164 : decode cX5_tickRecord 164 = .ok (.iconst (-1), 1) := by decide +kernel
theorem dX5_tickRecord_165 : decode cX5_tickRecord 165 = .ok (.ixor, 1) := by decide +kernel
theorem dX5_tickRecord_166 : decode cX5_tickRecord 166 = .ok (.iand, 1) := by decide +kernel
theorem dX5_tickRecord_167 : decode cX5_tickRecord 167 = .ok (.iload 5, 2) := by decide +kernel
theorem dX5_tickRecord_169 : decode cX5_tickRecord 169 = .ok (.iload_n 3, 1) := by decide +kernel
theorem dX5_tickRecord_170 : decode cX5_tickRecord 170 = .ok (.ior, 1) := by decide +kernel
theorem dX5_tickRecord_171 : decode cX5_tickRecord 171 = .ok (.invokevirtual 94, 3) := by decide +kernel
theorem dX5_tickRecord_174 : decode cX5_tickRecord 174 = .ok (.goto 16, 3) := by decide +kernel
theorem dX5_tickRecord_177 : decode cX5_tickRecord 177 = .ok (.aload_n 0, 1) := by decide +kernel
theorem dX5_tickRecord_178 : decode cX5_tickRecord 178 = .ok (.iload_n 1, 1) := by decide +kernel
theorem dX5_tickRecord_179 : decode cX5_tickRecord 179 = .ok (.iconst 0, 1) := by decide +kernel
theorem dX5_tickRecord_180 : decode cX5_tickRecord 180 = .ok (.iload 4, 2) := by decide +kernel
theorem dX5_tickRecord_182 : decode cX5_tickRecord 182 = .ok (.iload_n 3, 1) := by decide +kernel
theorem dX5_tickRecord_183 : decode cX5_tickRecord 183 = .ok (.iconst (-1), 1) := by decide +kernel
theorem dX5_tickRecord_184 : decode cX5_tickRecord 184 = .ok (.ixor, 1) := by decide +kernel
theorem dX5_tickRecord_185 : decode cX5_tickRecord 185 = .ok (.iand, 1) := by decide +kernel
theorem dX5_tickRecord_186 : decode cX5_tickRecord 186 = .ok (.iconst 0, 1) := by decide +kernel
theorem dX5_tickRecord_187 : decode cX5_tickRecord 187 = .ok (.invokevirtual 94, 3) := by decide +kernel
theorem dX5_tickRecord_190 : decode cX5_tickRecord 190 = .ok (.return_, 1) := by decide +kernel
theorem dX5_tickLink_0 : decode cX5_tickLink 0 = .ok (.aload_n 0, 1) := by decide +kernel
theorem dX5_tickLink_1 : decode cX5_tickLink 1 = .ok (.getfield 22, 3) := by decide +kernel
theorem dX5_tickLink_4 : decode cX5_tickLink 4 = .ok (.iload_n 1, 1) := by decide +kernel
theorem dX5_tickLink_5 : decode cX5_tickLink 5 = .ok (.iaload, 1) := by decide +kernel
theorem dX5_tickLink_6 : decode cX5_tickLink 6 = .ok (.ifCond .le 45, 3) := by decide +kernel
theorem dX5_tickLink_9 : decode cX5_tickLink 9 = .ok (.aload_n 0, 1) := by decide +kernel
theorem dX5_tickLink_10 : decode cX5_tickLink 10 = .ok (.getfield 22, 3) := by decide +kernel
theorem dX5_tickLink_13 : decode cX5_tickLink 13 = .ok (.iload_n 1, 1) := by decide +kernel
theorem dX5_tickLink_14 : decode cX5_tickLink 14 = .ok (.dup2, 1) := by decide +kernel
theorem dX5_tickLink_15 : decode cX5_tickLink 15 = .ok (.iaload, 1) := by decide +kernel
theorem dX5_tickLink_16 : decode cX5_tickLink 16 = .ok (.iconst 1, 1) := by decide +kernel
theorem dX5_tickLink_17 : decode cX5_tickLink 17 = .ok (.isub, 1) := by decide +kernel
theorem dX5_tickLink_18 : decode cX5_tickLink 18 = .ok (.iastore, 1) := by decide +kernel
theorem dX5_tickLink_19 : decode cX5_tickLink 19 = .ok (.aload_n 0, 1) := by decide +kernel
theorem dX5_tickLink_20 : decode cX5_tickLink 20 = .ok (.getfield 22, 3) := by decide +kernel
theorem dX5_tickLink_23 : decode cX5_tickLink 23 = .ok (.iload_n 1, 1) := by decide +kernel
theorem dX5_tickLink_24 : decode cX5_tickLink 24 = .ok (.iaload, 1) := by decide +kernel
theorem dX5_tickLink_25 : decode cX5_tickLink 25 = .ok (.ifCond .ne 24, 3) := by decide +kernel
theorem dX5_tickLink_28 : decode cX5_tickLink 28 = .ok (.aload_n 0, 1) := by decide +kernel
theorem dX5_tickLink_29 : decode cX5_tickLink 29 = .ok (.getfield 19, 3) := by decide +kernel
theorem dX5_tickLink_32 : decode cX5_tickLink 32 = .ok (.iload_n 1, 1) := by decide +kernel
theorem dX5_tickLink_33 : decode cX5_tickLink 33 = .ok (.sipush 500, 3) := by decide +kernel
theorem dX5_tickLink_36 : decode cX5_tickLink 36 = .ok (.iastore, 1) := by decide +kernel
theorem dX5_tickLink_37 : decode cX5_tickLink 37 = .ok (.aload_n 0, 1) := by decide +kernel
theorem dX5_tickLink_38 : decode cX5_tickLink 38 = .ok (.getfield 25, 3) := by decide +kernel
theorem dX5_tickLink_41 : decode cX5_tickLink 41 = .ok (.iload_n 1, 1) := by decide +kernel
theorem dX5_tickLink_42 : decode cX5_tickLink 42 = .ok (.aload_n 0, 1) := by decide +kernel
theorem dX5_tickLink_43 : decode cX5_tickLink 43 = .ok (.getfield 13, 3) := by decide +kernel
theorem dX5_tickLink_46 : decode cX5_tickLink 46 = .ok (.iload_n 1, 1) := by decide +kernel
theorem dX5_tickLink_47 : decode cX5_tickLink 47 = .ok (.iaload, 1) := by decide +kernel
theorem dX5_tickLink_48 : decode cX5_tickLink 48 = .ok (.iastore, 1) := by decide +kernel
theorem dX5_tickLink_49 : decode cX5_tickLink 49 = .ok (.iconst 0, 1) := by decide +kernel
theorem dX5_tickLink_50 : decode cX5_tickLink 50 = .ok (.ireturn, 1) := by decide +kernel
theorem dX5_tickLink_51 : decode cX5_tickLink 51 = .ok (.aload_n 0, 1) := by decide +kernel
theorem dX5_tickLink_52 : decode cX5_tickLink 52 = .ok (.getfield 25, 3) := by decide +kernel
theorem dX5_tickLink_55 : decode cX5_tickLink 55 = .ok (.iload_n 1, 1) := by decide +kernel
theorem dX5_tickLink_56 : decode cX5_tickLink 56 = .ok (.dup2, 1) := by decide +kernel
theorem dX5_tickLink_57 : decode cX5_tickLink 57 = .ok (.iaload, 1) := by decide +kernel
theorem dX5_tickLink_58 : decode cX5_tickLink 58 = .ok (.iconst 1, 1) := by decide +kernel
theorem dX5_tickLink_59 : decode cX5_tickLink 59 = .ok (.isub, 1) := by decide +kernel
theorem dX5_tickLink_60 : decode cX5_tickLink 60 = .ok (.iastore, 1) := by decide +kernel
theorem dX5_tickLink_61 : decode cX5_tickLink 61 = .ok (.aload_n 0, 1) := by decide +kernel
theorem dX5_tickLink_62 : decode cX5_tickLink 62 = .ok (.getfield 25, 3) := by decide +kernel
theorem dX5_tickLink_65 : decode cX5_tickLink 65 = .ok (.iload_n 1, 1) := by decide +kernel
theorem dX5_tickLink_66 : decode cX5_tickLink 66 = .ok (.iaload, 1) := by decide +kernel
theorem dX5_tickLink_67 : decode cX5_tickLink 67 = .ok (.ifCond .le 5, 3) := by decide +kernel
theorem dX5_tickLink_70 : decode cX5_tickLink 70 = .ok (.iconst 0, 1) := by decide +kernel
theorem dX5_tickLink_71 : decode cX5_tickLink 71 = .ok (.ireturn, 1) := by decide +kernel
theorem dX5_tickLink_72 : decode cX5_tickLink 72 = .ok (.aload_n 0, 1) := by decide +kernel
theorem dX5_tickLink_73 : decode cX5_tickLink 73 = .ok (.getfield 25, 3) := by decide +kernel
theorem dX5_tickLink_76 : decode cX5_tickLink 76 = .ok (.iload_n 1, 1) := by decide +kernel
theorem dX5_tickLink_77 : decode cX5_tickLink 77 = .ok (.aload_n 0, 1) := by decide +kernel
theorem dX5_tickLink_78 : decode cX5_tickLink 78 = .ok (.getfield 13, 3) := by decide +kernel
theorem dX5_tickLink_81 : decode cX5_tickLink 81 = .ok (.iload_n 1, 1) := by decide +kernel
theorem dX5_tickLink_82 : decode cX5_tickLink 82 = .ok (.iaload, 1) := by decide +kernel
theorem dX5_tickLink_83 : decode cX5_tickLink 83 = .ok (.iastore, 1) := by decide +kernel
theorem dX5_tickLink_84 : decode cX5_tickLink 84 = .ok (.aload_n 0, 1) := by decide +kernel
theorem dX5_tickLink_85 : decode cX5_tickLink 85 = .ok (.iload_n 1, 1) := by decide +kernel
theorem dX5_tickLink_86 : decode cX5_tickLink 86 = .ok (.iconst (-1), 1) := by decide +kernel
theorem dX5_tickLink_87 : decode cX5_tickLink 87 = .ok (.iconst 0, 1) := by decide +kernel
theorem dX5_tickLink_88 : decode cX5_tickLink 88 = .ok (.invokevirtual 79, 3) := by decide +kernel
theorem dX5_tickLink_91 : decode cX5_tickLink 91 = .ok (.iconst 1, 1) := by decide +kernel
theorem dX5_tickLink_92 : decode cX5_tickLink 92 = .ok (.ireturn, 1) := by decide +kernel
theorem dX5_tick_0 : decode cX5_tick 0 = .ok (.aload_n 0, 1) := by decide +kernel
theorem dX5_tick_1 : decode cX5_tick 1 = .ok (.iload_n 1, 1) := by decide +kernel
theorem dX5_tick_2 : decode cX5_tick 2 = .ok (.iconst 0, 1) := by decide +kernel
theorem dX5_tick_3 : decode cX5_tick 3 = .ok (.sipush 2000, 3) := by decide +kernel
theorem dX5_tick_6 : decode cX5_tick 6 = .ok (.invokestatic 120, 3) := by decide +kernel
theorem dX5_tick_9 : decode cX5_tick 9 = .ok (.ifCond .eq 7, 3) := by decide +kernel
theorem dX5_tick_12 : decode cX5_tick 12 = .ok (.iconst 0, 1) := by decide +kernel
theorem dX5_tick_13 : decode cX5_tick 13 = .ok (.goto 4, 3) := by decide +kernel
theorem dX5_tick_16 : decode cX5_tick 16 = .ok (.iconst 1, 1) := by decide +kernel
theorem dX5_tick_17 : decode cX5_tick 17 = .ok (.putfield 66, 3) := by decide +kernel
theorem dX5_tick_20 : decode cX5_tick 20 = .ok (.aload_n 0, 1) := by decide +kernel
theorem dX5_tick_21 : decode cX5_tick 21 = .ok (.getfield 66, 3) := by decide +kernel
theorem dX5_tick_24 : decode cX5_tick 24 = .ok (.ifCond .le 5, 3) := by decide +kernel
theorem dX5_tick_27 : decode cX5_tick 27 = .ok (.iconst 0, 1) := by decide +kernel
theorem dX5_tick_28 : decode cX5_tick 28 = .ok (.ireturn, 1) := by decide +kernel
theorem dX5_tick_29 : decode cX5_tick 29 = .ok (.iconst 0, 1) := by decide +kernel
theorem dX5_tick_30 : decode cX5_tick 30 = .ok (.istore_n 2, 1) := by decide +kernel
theorem dX5_tick_31 : decode cX5_tick 31 = .ok (.iconst 0, 1) := by decide +kernel
theorem dX5_tick_32 : decode cX5_tick 32 = .ok (.istore_n 3, 1) := by decide +kernel
theorem dX5_tick_33 : decode cX5_tick 33 = .ok (.iload_n 3, 1) := by decide +kernel
theorem dX5_tick_34 : decode cX5_tick 34 = .ok (.iload_n 1, 1) := by decide +kernel
theorem dX5_tick_35 : decode cX5_tick 35 = .ok (.if_icmp .ge 81, 3) := by decide +kernel
theorem dX5_tick_38 : decode cX5_tick 38 = .ok (.aload_n 0, 1) := by decide +kernel
theorem dX5_tick_39 : decode cX5_tick 39 = .ok (.dup, 1) := by decide +kernel
theorem dX5_tick_40 : decode cX5_tick 40 = .ok (.getfield 69, 3) := by decide +kernel
theorem dX5_tick_43 : decode cX5_tick 43 = .ok (.iconst 1, 1) := by decide +kernel
theorem dX5_tick_44 : decode cX5_tick 44 = .ok (.iadd, 1) := by decide +kernel
theorem dX5_tick_45 : decode cX5_tick 45 = .ok (.putfield 69, 3) := by decide +kernel
theorem dX5_tick_48 : decode cX5_tick 48 = .ok (.iconst 0, 1) := by decide +kernel
theorem dX5_tick_49 : decode cX5_tick 49 = .ok (.istore 4, 2) := by decide +kernel
theorem dX5_tick_51 : decode cX5_tick 51 = .ok (.iload 4, 2) := by decide +kernel
theorem dX5_tick_53 : decode cX5_tick 53 = .ok (.bipush 8, 2) := by decide +kernel
theorem dX5_tick_55 : decode cX5_tick 55 = .ok (.aload_n 0, 1) := by decide +kernel
theorem dX5_tick_56 : decode cX5_tick 56 = .ok (.getfield 59, 3) := by decide +kernel
theorem dX5_tick_59 : decode cX5_tick 59 = .ok (.imul, 1) := by decide +kernel
theorem dX5_tick_60 : decode cX5_tick 60 = .ok (.if_icmp .ge 15, 3) := by decide +kernel
theorem dX5_tick_63 : decode cX5_tick 63 = .ok (.aload_n 0, 1) := by decide +kernel
theorem dX5_tick_64 : decode cX5_tick 64 = .ok (.iload 4, 2) := by decide +kernel
theorem dX5_tick_66 : decode cX5_tick 66 = .ok (.invokevirtual 129, 3) := by decide +kernel
theorem dX5_tick_69 : decode cX5_tick 69 = .ok (.iinc 4 1, 3) := by decide +kernel
theorem dX5_tick_72 : decode cX5_tick 72 = .ok (.goto (-21), 3) := by decide +kernel
theorem dX5_tick_75 : decode cX5_tick 75 = .ok (.iconst 0, 1) := by decide +kernel
theorem dX5_tick_76 : decode cX5_tick 76 = .ok (.istore 4, 2) := by decide +kernel
theorem dX5_tick_78 : decode cX5_tick 78 = .ok (.iload 4, 2) := by decide +kernel
theorem dX5_tick_80 : decode cX5_tick 80 = .ok (.aload_n 0, 1) := by decide +kernel
theorem dX5_tick_81 : decode cX5_tick 81 = .ok (.getfield 59, 3) := by decide +kernel
theorem dX5_tick_84 : decode cX5_tick 84 = .ok (.if_icmp .ge 26, 3) := by decide +kernel
theorem dX5_tick_87 : decode cX5_tick 87 = .ok (.aload_n 0, 1) := by decide +kernel
theorem dX5_tick_88 : decode cX5_tick 88 = .ok (.iload 4, 2) := by decide +kernel
theorem dX5_tick_90 : decode cX5_tick 90 = .ok (.invokevirtual 133, 3) := by decide +kernel
theorem dX5_tick_93 : decode cX5_tick 93 = .ok (.ifCond .eq 9, 3) := by decide +kernel
theorem dX5_tick_96 : decode cX5_tick 96 = .ok (.iload_n 2, 1) := by decide +kernel
theorem dX5_tick_97 : decode cX5_tick 97 = .ok (.iconst 1, 1) := by decide +kernel
theorem dX5_tick_98 : decode cX5_tick 98 = .ok (.iadd, 1) := by decide +kernel
theorem dX5_tick_99 : decode cX5_tick 99 = .ok (.goto 4, 3) := by decide +kernel
theorem dX5_tick_102 : decode cX5_tick 102 = .ok (.iload_n 2, 1) := by decide +kernel
theorem dX5_tick_103 : decode cX5_tick 103 = .ok (.istore_n 2, 1) := by decide +kernel
theorem dX5_tick_104 : decode cX5_tick 104 = .ok (.iinc 4 1, 3) := by decide +kernel
theorem dX5_tick_107 : decode cX5_tick 107 = .ok (.goto (-29), 3) := by decide +kernel
theorem dX5_tick_110 : decode cX5_tick 110 = .ok (.iinc 3 1, 3) := by decide +kernel
theorem dX5_tick_113 : decode cX5_tick 113 = .ok (.goto (-80), 3) := by decide +kernel
theorem dX5_tick_116 : decode cX5_tick 116 = .ok (.iload_n 2, 1) := by decide +kernel
theorem dX5_tick_117 : decode cX5_tick 117 = .ok (.ireturn, 1) := by decide +kernel
theorem dX5_member_0 : decode cX5_member 0 = .ok (.aload_n 0, 1) := by decide +kernel
theorem dX5_member_1 : decode cX5_member 1 = .ok (.aload_n 0, 1) := by decide +kernel
theorem dX5_member_2 : decode cX5_member 2 = .ok (.iload_n 1, 1) := by decide +kernel
theorem dX5_member_3 : decode cX5_member 3 = .ok (.invokevirtual 117, 3) := by decide +kernel
theorem dX5_member_6 : decode cX5_member 6 = .ok (.ifCond .eq 22, 3) := by decide +kernel
theorem dX5_member_9 : decode cX5_member 9 = .ok (.iload_n 2, 1) := by decide +kernel
theorem dX5_member_10 : decode cX5_member 10 = .ok (.iconst 0, 1) := by decide +kernel
theorem dX5_member_11 : decode cX5_member 11 = .ok (.iconst 5, 1) := by decide +kernel
theorem dX5_member_12 : decode cX5_member 12 = .ok (.invokestatic 120, 3) := by decide +kernel
theorem dX5_member_15 : decode cX5_member 15 = .ok (.ifCond .eq 13, 3) := by decide +kernel
theorem dX5_member_18 : decode cX5_member 18 = .ok (.iload_n 3, 1) := by decide +kernel
theorem dX5_member_19 : decode cX5_member 19 = .ok (.iconst 0, 1) := by decide +kernel
theorem dX5_member_20 : decode cX5_member 20 = .ok (.bipush 7, 2) := by decide +kernel
theorem dX5_member_22 : decode cX5_member 22 = .ok (.invokestatic 120, 3) := by decide +kernel
theorem dX5_member_25 : decode cX5_member 25 = .ok (.ifCond .ne 7, 3) := by decide +kernel
theorem dX5_member_28 : decode cX5_member 28 = .ok (.iconst 1, 1) := by decide +kernel
theorem dX5_member_29 : decode cX5_member 29 = .ok (.goto 19, 3) := by decide +kernel
theorem dX5_member_32 : decode cX5_member 32 = .ok (.iload 5, 2) := by decide +kernel
theorem dX5_member_34 : decode cX5_member 34 = .ok (.iconst 0, 1) := by decide +kernel
theorem dX5_member_35 : decode cX5_member 35 = .ok (.ldc 124, 2) := by decide +kernel
theorem dX5_member_37 : decode cX5_member 37 = .ok (.invokestatic 120, 3) := by decide +kernel
theorem dX5_member_40 : decode cX5_member 40 = .ok (.ifCond .eq 7, 3) := by decide +kernel
theorem dX5_member_43 : decode cX5_member 43 = .ok (.iconst 0, 1) := by decide +kernel
theorem dX5_member_44 : decode cX5_member 44 = .ok (.goto 4, 3) := by decide +kernel
theorem dX5_member_47 : decode cX5_member 47 = .ok (.iconst 2, 1) := by decide +kernel
theorem dX5_member_48 : decode cX5_member 48 = .ok (.putfield 66, 3) := by decide +kernel
theorem dX5_member_51 : decode cX5_member 51 = .ok (.aload_n 0, 1) := by decide +kernel
theorem dX5_member_52 : decode cX5_member 52 = .ok (.getfield 66, 3) := by decide +kernel
theorem dX5_member_55 : decode cX5_member 55 = .ok (.ifCond .le 5, 3) := by decide +kernel
theorem dX5_member_58 : decode cX5_member 58 = .ok (.iconst 0, 1) := by decide +kernel
theorem dX5_member_59 : decode cX5_member 59 = .ok (.ireturn, 1) := by decide +kernel
theorem dX5_member_60 : decode cX5_member 60 = .ok (.bipush 48, 2) := by decide +kernel
theorem dX5_member_62 : decode cX5_member 62 = .ok (.iload_n 1, 1) := by decide +kernel
theorem dX5_member_63 : decode cX5_member 63 = .ok (.imul, 1) := by decide +kernel
theorem dX5_member_64 : decode cX5_member 64 = .ok (.bipush 8, 2) := by decide +kernel
theorem dX5_member_66 : decode cX5_member 66 = .ok (.iload_n 2, 1) := by decide +kernel
theorem dX5_member_67 : decode cX5_member 67 = .ok (.imul, 1) := by decide +kernel
theorem dX5_member_68 : decode cX5_member 68 = .ok (.iadd, 1) := by decide +kernel
theorem dX5_member_69 : decode cX5_member 69 = .ok (.iload_n 3, 1) := by decide +kernel
theorem dX5_member_70 : decode cX5_member 70 = .ok (.iadd, 1) := by decide +kernel
theorem dX5_member_71 : decode cX5_member 71 = .ok (.istore 6, 2) := by decide +kernel
theorem dX5_member_73 : decode cX5_member 73 = .ok (.aload_n 0, 1) := by decide +kernel
theorem dX5_member_74 : decode cX5_member 74 = .ok (.getfield 40, 3) := by decide +kernel
theorem dX5_member_77 : decode cX5_member 77 = .ok (.iload 6, 2) := by decide +kernel
theorem dX5_member_79 : decode cX5_member 79 = .ok (.baload, 1) := by decide +kernel
theorem dX5_member_80 : decode cX5_member 80 = .ok (.istore 7, 2) := by decide +kernel
theorem dX5_member_82 : decode cX5_member 82 = .ok (.aload_n 0, 1) := by decide +kernel
theorem dX5_member_83 : decode cX5_member 83 = .ok (.getfield 44, 3) := by decide +kernel
theorem dX5_member_86 : decode cX5_member 86 = .ok (.iload 6, 2) := by decide +kernel
theorem dX5_member_88 : decode cX5_member 88 = .ok (.iaload, 1) := by decide +kernel
theorem dX5_member_89 : decode cX5_member 89 = .ok (.istore 8, 2) := by decide +kernel
theorem dX5_member_91 : decode cX5_member 91 = .ok (.aload_n 0, 1) := by decide +kernel
theorem dX5_member_92 : decode cX5_member 92 = .ok (.getfield 40, 3) := by decide +kernel
theorem dX5_member_95 : decode cX5_member 95 = .ok (.iload 6, 2) := by decide +kernel
theorem dX5_member_97 : decode cX5_member 97 = .ok (.iload 4, 2) := by decide +kernel
theorem dX5_member_99 : decode cX5_member 99 = .ok (.bastore, 1) := by decide +kernel
theorem dX5_member_100 : decode cX5_member 100 = .ok (.aload_n 0, 1) := by decide +kernel
theorem dX5_member_101 : decode cX5_member 101 = .ok (.getfield 44, 3) := by decide +kernel
theorem dX5_member_104 : decode cX5_member 104 = .ok (.iload 6, 2) := by decide +kernel
theorem dX5_member_106 : decode cX5_member 106 = .ok (.iload 5, 2) := by decide +kernel
theorem dX5_member_108 : decode cX5_member 108 = .ok (.iastore, 1) := by decide +kernel
theorem dX5_member_109 : decode cX5_member 109 = .ok (.aload_n 0, 1) := by decide +kernel
theorem dX5_member_110 : decode cX5_member 110 = .ok (.getfield 72, 3) := by decide +kernel
theorem dX5_member_113 : decode cX5_member 113 = .ok (.istore 9, 2) := by decide +kernel
theorem dX5_member_115 : decode cX5_member 115 = .ok (.iload 7, 2) := by decide +kernel
theorem dX5_member_117 : decode cX5_member 117 = .ok (.iload 4, 2) := by decide +kernel
theorem dX5_member_119 : decode cX5_member 119 = .ok (.if_icmp .eq 26, 3) := by decide +kernel
theorem dX5_member_122 : decode cX5_member 122 = .ok (.aload_n 0, 1) := by decide +kernel
theorem dX5_member_123 : decode cX5_member 123 = .ok (.iload_n 1, 1) := by decide +kernel
theorem dX5_member_124 : decode cX5_member 124 = .ok (.iload_n 3, 1) := by decide +kernel
theorem dX5_member_125 : decode cX5_member 125 = .ok (.iload 4, 2) := by decide +kernel
theorem dX5_member_127 : decode cX5_member 127 = .ok (.ifCond .eq 7, 3) := by decide +kernel
theorem dX5_member_130 : decode cX5_member 130 = .ok (.iconst 3, 1) := by decide +kernel
theorem dX5_member_131 : decode cX5_member 131 = .ok (.goto 4, 3) := by decide +kernel
theorem dX5_member_134 : decode cX5_member 134 = .ok (.iconst 2, 1) := by decide +kernel
theorem dX5_member_135 : decode cX5_member 135 = .ok (.iload 5, 2) := by decide +kernel
theorem dX5_member_137 : decode cX5_member 137 = .ok (.invokevirtual 125, 3) := by decide +kernel
theorem dX5_member_140 : decode cX5_member 140 = .ok (.istore 10, 2) := by decide +kernel
theorem dX5_member_142 : decode cX5_member 142 = .ok (.goto 83, 3) := by decide +kernel
theorem dX5_member_145 : decode cX5_member 145 = .ok (.iload 4, 2) := by decide +kernel
theorem dX5_member_147 : decode cX5_member 147 = .ok (.ifCond .eq 13, 3) := by decide +kernel
theorem dX5_member_150 : decode cX5_member 150 = .ok (.iload 8, 2) := by decide +kernel
theorem dX5_member_152 : decode cX5_member 152 = .ok (.iload 5, 2) := by decide +kernel
theorem dX5_member_154 : decode cX5_member 154 = .ok (.iconst (-1), 1) := by decide +kernel
theorem dX5_member_155 : decode cX5_member 155 = .ok (.ixor, 1) := by decide +kernel
theorem dX5_member_156 : decode cX5_member 156 = .ok (.iand, 1) := by decide +kernel
theorem dX5_member_157 : decode cX5_member 157 = .ok (.goto 10, 3) := by decide +kernel
theorem dX5_member_160 : decode cX5_member 160 = .ok (.iload 5, 2) := by decide +kernel
theorem dX5_member_162 : decode cX5_member 162 = .ok (.iload 8, 2) := by decide +kernel
theorem dX5_member_164 : decode cX5_member 164 = .ok (.iconst (-1), 1) := by decide +kernel
theorem dX5_member_165 : decode cX5_member 165 = .ok (.ixor, 1) := by decide +kernel
theorem dX5_member_166 : decode cX5_member 166 = .ok (.iand, 1) := by decide +kernel
theorem dX5_member_167 : decode cX5_member 167 = .ok (.istore 10, 2) := by decide +kernel
theorem dX5_member_169 : decode cX5_member 169 = .ok (.iload 4, 2) := by decide +kernel
theorem dX5_member_171 : decode cX5_member 171 = .ok (.ifCond .eq 13, 3) := by decide +kernel
theorem dX5_member_174 : decode cX5_member 174 = .ok (.iload 5, 2) := by decide +kernel
theorem dX5_member_176 : decode cX5_member 176 = .ok (.iload 8, 2) := by decide +kernel
theorem dX5_member_178 : decode cX5_member 178 = .ok (.iconst (-1), 1) := by decide +kernel
theorem dX5_member_179 : decode cX5_member 179 = .ok (.ixor, 1) := by decide +kernel
theorem dX5_member_180 : decode cX5_member 180 = .ok (.iand, 1) := by decide +kernel
theorem dX5_member_181 : decode cX5_member 181 = .ok (.goto 10, 3) := by decide +kernel
theorem dX5_member_184 : decode cX5_member 184 = .ok (.iload 8, 2) := by decide +kernel
theorem dX5_member_186 : decode cX5_member 186 = .ok (.iload 5, 2) := by decide +kernel
theorem dX5_member_188 : decode cX5_member 188 = .ok (.iconst (-1), 1) := by decide +kernel
theorem dX5_member_189 : decode cX5_member 189 = .ok (.ixor, 1) := by decide +kernel
theorem dX5_member_190 : decode cX5_member 190 = .ok (.iand, 1) := by decide +kernel
theorem dX5_member_191 : decode cX5_member 191 = .ok (.istore 11, 2) := by decide +kernel
theorem dX5_member_193 : decode cX5_member 193 = .ok (.iload 10, 2) := by decide +kernel
theorem dX5_member_195 : decode cX5_member 195 = .ok (.ifCond .eq 14, 3) := by decide +kernel
theorem dX5_member_198 : decode cX5_member 198 = .ok (.aload_n 0, 1) := by decide +kernel
theorem dX5_member_199 : decode cX5_member 199 = .ok (.iload_n 1, 1) := by decide +kernel
theorem dX5_member_200 : decode cX5_member 200 = .ok (.iload_n 3, 1) := by decide +kernel
theorem dX5_member_201 : decode cX5_member 201 = .ok (.iconst 4, 1) := by decide +kernel
theorem dX5_member_202 : decode cX5_member 202 = .ok (.iload 10, 2) := by decide +kernel
theorem dX5_member_204 : decode cX5_member 204 = .ok (.invokevirtual 125, 3) := by decide +kernel
theorem dX5_member_207 : decode cX5_member 207 = .ok (.istore 12, 2) := by decide +kernel
theorem dX5_member_209 : decode cX5_member 209 = .ok (.iload 11, 2) := by decide +kernel
theorem dX5_member_211 : decode cX5_member 211 = .ok (.ifCond .eq 14, 3) := by decide +kernel
theorem dX5_member_214 : decode cX5_member 214 = .ok (.aload_n 0, 1) := by decide +kernel
theorem dX5_member_215 : decode cX5_member 215 = .ok (.iload_n 1, 1) := by decide +kernel
theorem dX5_member_216 : decode cX5_member 216 = .ok (.iload_n 3, 1) := by decide +kernel
theorem dX5_member_217 : decode cX5_member 217 = .ok (.iconst 5, 1) := by decide +kernel
theorem dX5_member_218 : decode cX5_member 218 = .ok (.iload 11, 2) := by decide +kernel
theorem dX5_member_220 : decode cX5_member 220 = .ok (.invokevirtual 125, 3) := by decide +kernel
theorem dX5_member_223 : decode cX5_member 223 = .ok (.istore 12, 2) := by decide +kernel
theorem dX5_member_225 : decode cX5_member 225 = .ok (.aload_n 0, 1) := by decide +kernel
theorem dX5_member_226 : decode cX5_member 226 = .ok (.getfield 72, 3) := by decide +kernel
theorem dX5_member_229 : decode cX5_member 229 = .ok (.iload 9, 2) := by decide +kernel
theorem dX5_member_231 : decode cX5_member 231 = .ok (.isub, 1) := by decide +kernel
theorem dX5_member_232 : decode cX5_member 232 = .ok (.ireturn, 1) := by decide +kernel
theorem dX5_answer_0 : decode cX5_answer 0 = .ok (.aload_n 0, 1) := by decide +kernel
theorem dX5_answer_1 : decode cX5_answer 1 = .ok (.aload_n 0, 1) := by decide +kernel
theorem dX5_answer_2 : decode cX5_answer 2 = .ok (.iload_n 1, 1) := by decide +kernel
theorem dX5_answer_3 : decode cX5_answer 3 = .ok (.invokevirtual 117, 3) := by decide +kernel
theorem dX5_answer_6 : decode cX5_answer 6 = .ok (.ifCond .eq 16, 3) := by decide +kernel
theorem dX5_answer_9 : decode cX5_answer 9 = .ok (.iload_n 2, 1) := by decide +kernel
theorem dX5_answer_10 : decode cX5_answer 10 = .ok (.iconst 0, 1) := by decide +kernel
theorem dX5_answer_11 : decode cX5_answer 11 = .ok (.iconst 5, 1) := by decide +kernel
theorem dX5_answer_12 : decode cX5_answer 12 = .ok (.invokestatic 120, 3) := by decide +kernel
theorem dX5_answer_15 : decode cX5_answer 15 = .ok (.ifCond .eq 7, 3) := by decide +kernel
theorem dX5_answer_18 : decode cX5_answer 18 = .ok (.iconst 0, 1) := by decide +kernel
theorem dX5_answer_19 : decode cX5_answer 19 = .ok (.goto 4, 3) := by decide +kernel
theorem dX5_answer_22 : decode cX5_answer 22 = .ok (.iconst 1, 1) := by decide +kernel
theorem dX5_answer_23 : decode cX5_answer 23 = .ok (.putfield 66, 3) := by decide +kernel
theorem dX5_answer_26 : decode cX5_answer 26 = .ok (.aload_n 0, 1) := by decide +kernel
theorem dX5_answer_27 : decode cX5_answer 27 = .ok (.getfield 66, 3) := by decide +kernel
theorem dX5_answer_30 : decode cX5_answer 30 = .ok (.ifCond .le 5, 3) := by decide +kernel
theorem dX5_answer_33 : decode cX5_answer 33 = .ok (.iconst 0, 1) := by decide +kernel
theorem dX5_answer_34 : decode cX5_answer 34 = .ok (.ireturn, 1) := by decide +kernel
theorem dX5_answer_35 : decode cX5_answer 35 = .ok (.iconst 0, 1) := by decide +kernel
theorem dX5_answer_36 : decode cX5_answer 36 = .ok (.istore_n 3, 1) := by decide +kernel
theorem dX5_answer_37 : decode cX5_answer 37 = .ok (.iconst 0, 1) := by decide +kernel
theorem dX5_answer_38 : decode cX5_answer 38 = .ok (.istore 4, 2) := by decide +kernel
theorem dX5_answer_40 : decode cX5_answer 40 = .ok (.iload 4, 2) := by decide +kernel
theorem dX5_answer_42 : decode cX5_answer 42 = .ok (.bipush 8, 2) := by decide +kernel
theorem dX5_answer_44 : decode cX5_answer 44 = .ok (.if_icmp .ge 77, 3) := by decide +kernel
theorem dX5_answer_47 : decode cX5_answer 47 = .ok (.bipush 48, 2) := by decide +kernel
theorem dX5_answer_49 : decode cX5_answer 49 = .ok (.iload_n 1, 1) := by decide +kernel
theorem dX5_answer_50 : decode cX5_answer 50 = .ok (.imul, 1) := by decide +kernel
theorem dX5_answer_51 : decode cX5_answer 51 = .ok (.bipush 8, 2) := by decide +kernel
theorem dX5_answer_53 : decode cX5_answer 53 = .ok (.iload_n 2, 1) := by decide +kernel
theorem dX5_answer_54 : decode cX5_answer 54 = .ok (.imul, 1) := by decide +kernel
theorem dX5_answer_55 : decode cX5_answer 55 = .ok (.iadd, 1) := by decide +kernel
theorem dX5_answer_56 : decode cX5_answer 56 = .ok (.iload 4, 2) := by decide +kernel
theorem dX5_answer_58 : decode cX5_answer 58 = .ok (.iadd, 1) := by decide +kernel
theorem dX5_answer_59 : decode cX5_answer 59 = .ok (.istore 5, 2) := by decide +kernel
theorem dX5_answer_61 : decode cX5_answer 61 = .ok (.aload_n 0, 1) := by decide +kernel
theorem dX5_answer_62 : decode cX5_answer 62 = .ok (.getfield 40, 3) := by decide +kernel
theorem dX5_answer_65 : decode cX5_answer 65 = .ok (.iload 5, 2) := by decide +kernel
theorem dX5_answer_67 : decode cX5_answer 67 = .ok (.baload, 1) := by decide +kernel
theorem dX5_answer_68 : decode cX5_answer 68 = .ok (.ifCond .ne 13, 3) := by decide +kernel
theorem dX5_answer_71 : decode cX5_answer 71 = .ok (.aload_n 0, 1) := by decide +kernel
theorem dX5_answer_72 : decode cX5_answer 72 = .ok (.getfield 44, 3) := by decide +kernel
theorem dX5_answer_75 : decode cX5_answer 75 = .ok (.iload 5, 2) := by decide +kernel
theorem dX5_answer_77 : decode cX5_answer 77 = .ok (.iaload, 1) := by decide +kernel
theorem dX5_answer_78 : decode cX5_answer 78 = .ok (.ifCond .eq 37, 3) := by decide +kernel
theorem dX5_answer_81 : decode cX5_answer 81 = .ok (.aload_n 0, 1) := by decide +kernel
theorem dX5_answer_82 : decode cX5_answer 82 = .ok (.iload_n 1, 1) := by decide +kernel
theorem dX5_answer_83 : decode cX5_answer 83 = .ok (.iload 4, 2) := by decide +kernel
theorem dX5_answer_85 : decode cX5_answer 85 = .ok (.aload_n 0, 1) := by decide +kernel
theorem dX5_answer_86 : decode cX5_answer 86 = .ok (.getfield 40, 3) := by decide +kernel
theorem dX5_answer_89 : decode cX5_answer 89 = .ok (.iload 5, 2) := by decide +kernel
theorem dX5_answer_91 : decode cX5_answer 91 = .ok (.baload, 1) := by decide +kernel
theorem dX5_answer_92 : decode cX5_answer 92 = .ok (.ifCond .eq 7, 3) := by decide +kernel
theorem dX5_answer_95 : decode cX5_answer 95 = .ok (.iconst 1, 1) := by decide +kernel
theorem dX5_answer_96 : decode cX5_answer 96 = .ok (.goto 4, 3) := by decide +kernel
theorem dX5_answer_99 : decode cX5_answer 99 = .ok (.iconst 0, 1) := by decide +kernel
theorem dX5_answer_100 : decode cX5_answer 100 = .ok (.aload_n 0, 1) := by decide +kernel
theorem dX5_answer_101 : decode cX5_answer 101 = .ok (.getfield 44, 3) := by decide +kernel
theorem dX5_answer_104 : decode cX5_answer 104 = .ok (.iload 5, 2) := by decide +kernel
theorem dX5_answer_106 : decode cX5_answer 106 = .ok (.iaload, 1) := by decide +kernel
theorem dX5_answer_107 : decode cX5_answer 107 = .ok (.invokevirtual 125, 3) := by decide +kernel
theorem dX5_answer_110 : decode cX5_answer 110 = .ok (.istore 6, 2) := by decide +kernel
theorem dX5_answer_112 : decode cX5_answer 112 = .ok (.iinc 3 1, 3) := by decide +kernel
theorem dX5_answer_115 : decode cX5_answer 115 = .ok (.iinc 4 1, 3) := by decide +kernel
theorem dX5_answer_118 : decode cX5_answer 118 = .ok (.goto (-78), 3) := by decide +kernel
theorem dX5_answer_121 : decode cX5_answer 121 = .ok (.iload_n 3, 1) := by decide +kernel
theorem dX5_answer_122 : decode cX5_answer 122 = .ok (.ireturn, 1) := by decide +kernel
theorem dX5_wanted_0 : decode cX5_wanted 0 = .ok (.aload_n 0, 1) := by decide +kernel
theorem dX5_wanted_1 : decode cX5_wanted 1 = .ok (.aload_n 0, 1) := by decide +kernel
theorem dX5_wanted_2 : decode cX5_wanted 2 = .ok (.iload_n 1, 1) := by decide +kernel
theorem dX5_wanted_3 : decode cX5_wanted 3 = .ok (.invokevirtual 117, 3) := by decide +kernel
theorem dX5_wanted_6 : decode cX5_wanted 6 = .ok (.ifCond .eq 27, 3) := by decide +kernel
theorem dX5_wanted_9 : decode cX5_wanted 9 = .ok (.iload_n 2, 1) := by decide +kernel
theorem dX5_wanted_10 : decode cX5_wanted 10 = .ok (.iconst 0, 1) := by decide +kernel
theorem dX5_wanted_11 : decode cX5_wanted 11 = .ok (.bipush 7, 2) := by decide +kernel
theorem dX5_wanted_13 : decode cX5_wanted 13 = .ok (.invokestatic 120, 3) := by decide +kernel
theorem dX5_wanted_16 : decode cX5_wanted 16 = .ok (.ifCond .eq 17, 3) := by decide +kernel
theorem dX5_wanted_19 : decode cX5_wanted 19 = .ok (.iload_n 3, 1) := by decide +kernel
theorem dX5_wanted_20 : decode cX5_wanted 20 = .ok (.iconst 0, 1) := by decide +kernel
theorem dX5_wanted_21 : decode cX5_wanted 21 = .ok (.bipush 15, 2) := by decide +kernel
theorem dX5_wanted_23 : decode cX5_wanted 23 = .ok (.invokestatic 120, 3) := by decide +kernel
theorem dX5_wanted_26 : decode cX5_wanted 26 = .ok (.ifCond .eq 7, 3) := by decide +kernel
theorem dX5_wanted_29 : decode cX5_wanted 29 = .ok (.iconst 0, 1) := by decide +kernel
theorem dX5_wanted_30 : decode cX5_wanted 30 = .ok (.goto 4, 3) := by decide +kernel
theorem dX5_wanted_33 : decode cX5_wanted 33 = .ok (.iconst 1, 1) := by decide +kernel
theorem dX5_wanted_34 : decode cX5_wanted 34 = .ok (.putfield 66, 3) := by decide +kernel
theorem dX5_wanted_37 : decode cX5_wanted 37 = .ok (.iconst 0, 1) := by decide +kernel
theorem dX5_wanted_38 : decode cX5_wanted 38 = .ok (.istore 4, 2) := by decide +kernel
theorem dX5_wanted_40 : decode cX5_wanted 40 = .ok (.iconst 0, 1) := by decide +kernel
theorem dX5_wanted_41 : decode cX5_wanted 41 = .ok (.istore 5, 2) := by decide +kernel
theorem dX5_wanted_43 : decode cX5_wanted 43 = .ok (.iload 5, 2) := by decide +kernel
theorem dX5_wanted_45 : decode cX5_wanted 45 = .ok (.bipush 6, 2) := by decide +kernel
theorem dX5_wanted_47 : decode cX5_wanted 47 = .ok (.if_icmp .ge 72, 3) := by decide +kernel
theorem dX5_wanted_50 : decode cX5_wanted 50 = .ok (.aload_n 0, 1) := by decide +kernel
theorem dX5_wanted_51 : decode cX5_wanted 51 = .ok (.getfield 66, 3) := by decide +kernel
theorem dX5_wanted_54 : decode cX5_wanted 54 = .ok (.ifCond .ne 65, 3) := by decide +kernel
theorem dX5_wanted_57 : decode cX5_wanted 57 = .ok (.bipush 48, 2) := by decide +kernel
theorem dX5_wanted_59 : decode cX5_wanted 59 = .ok (.iload_n 1, 1) := by decide +kernel
theorem dX5_wanted_60 : decode cX5_wanted 60 = .ok (.imul, 1) := by decide +kernel
theorem dX5_wanted_61 : decode cX5_wanted 61 = .ok (.bipush 8, 2) := by decide +kernel
theorem dX5_wanted_63 : decode cX5_wanted 63 = .ok (.iload 5, 2) := by decide +kernel
theorem dX5_wanted_65 : decode cX5_wanted 65 = .ok (.imul, 1) := by decide +kernel
theorem dX5_wanted_66 : decode cX5_wanted 66 = .ok (.iadd, 1) := by decide +kernel
theorem dX5_wanted_67 : decode cX5_wanted 67 = .ok (.iload_n 2, 1) := by decide +kernel
theorem dX5_wanted_68 : decode cX5_wanted 68 = .ok (.iadd, 1) := by decide +kernel
theorem dX5_wanted_69 : decode cX5_wanted 69 = .ok (.istore 6, 2) := by decide +kernel
theorem dX5_wanted_71 : decode cX5_wanted 71 = .ok (.iload 4, 2) := by decide +kernel
theorem dX5_wanted_73 : decode cX5_wanted 73 = .ok (.ifCond .ne 33, 3) := by decide +kernel
theorem dX5_wanted_76 : decode cX5_wanted 76 = .ok (.aload_n 0, 1) := by decide +kernel
theorem dX5_wanted_77 : decode cX5_wanted 77 = .ok (.getfield 44, 3) := by decide +kernel
theorem dX5_wanted_80 : decode cX5_wanted 80 = .ok (.iload 6, 2) := by decide +kernel
theorem dX5_wanted_82 : decode cX5_wanted 82 = .ok (.iaload, 1) := by decide +kernel
theorem dX5_wanted_83 : decode cX5_wanted 83 = .ok (.iload_n 3, 1) := by decide +kernel
theorem dX5_wanted_84 : decode cX5_wanted 84 = .ok (.ishr, 1) := by decide +kernel
theorem dX5_wanted_85 : decode cX5_wanted 85 = .ok (.iconst 1, 1) := by decide +kernel
theorem dX5_wanted_86 : decode cX5_wanted 86 = .ok (.iand, 1) := by decide +kernel
theorem dX5_wanted_87 : decode cX5_wanted 87 = .ok (.iconst 1, 1) := by decide +kernel
theorem dX5_wanted_88 : decode cX5_wanted 88 = .ok (.if_icmp .ne 7, 3) := by decide +kernel
theorem dX5_wanted_91 : decode cX5_wanted 91 = .ok (.iconst 1, 1) := by decide +kernel
theorem dX5_wanted_92 : decode cX5_wanted 92 = .ok (.goto 4, 3) := by decide +kernel
theorem dX5_wanted_95 : decode cX5_wanted 95 = .ok (.iconst 0, 1) := by decide +kernel
theorem dX5_wanted_96 : decode cX5_wanted 96 = .ok (.aload_n 0, 1) := by decide +kernel
theorem dX5_wanted_97 : decode cX5_wanted 97 = .ok (.getfield 40, 3) := by decide +kernel
theorem dX5_wanted_100 : decode cX5_wanted 100 = .ok (.iload 6, 2) := by decide +kernel
theorem dX5_wanted_102 : decode cX5_wanted 102 = .ok (.baload, 1) := by decide +kernel
theorem dX5_wanted_103 : decode cX5_wanted 103 = .ok (.if_icmp .eq 7, 3) := by decide +kernel
theorem dX5_wanted_106 : decode cX5_wanted 106 = .ok (.iconst 1, 1) := by decide +kernel
theorem dX5_wanted_107 : decode cX5_wanted 107 = .ok (.goto 4, 3) := by decide +kernel
theorem dX5_wanted_110 : decode cX5_wanted 110 = .ok (.iconst 0, 1) := by decide +kernel
theorem dX5_wanted_111 : decode cX5_wanted 111 = .ok (.istore 4, 2) := by decide +kernel
theorem dX5_wanted_113 : decode cX5_wanted 113 = .ok (.iinc 5 1, 3) := by decide +kernel
theorem dX5_wanted_116 : decode cX5_wanted 116 = .ok (.goto (-73), 3) := by decide +kernel
theorem dX5_wanted_119 : decode cX5_wanted 119 = .ok (.iload 4, 2) := by decide +kernel
theorem dX5_wanted_121 : decode cX5_wanted 121 = .ok (.ireturn, 1) := by decide +kernel
theorem dX5_passed_0 : decode cX5_passed 0 = .ok (.aload_n 0, 1) := by decide +kernel
theorem dX5_passed_1 : decode cX5_passed 1 = .ok (.aload_n 0, 1) := by decide +kernel
theorem dX5_passed_2 : decode cX5_passed 2 = .ok (.iload_n 1, 1) := by decide +kernel
theorem dX5_passed_3 : decode cX5_passed 3 = .ok (.invokevirtual 117, 3) := by decide +kernel
theorem dX5_passed_6 : decode cX5_passed 6 = .ok (.ifCond .eq 27, 3) := by decide +kernel
theorem dX5_passed_9 : decode cX5_passed 9 = .ok (.iload_n 2, 1) := by decide +kernel
theorem dX5_passed_10 : decode cX5_passed 10 = .ok (.iconst 0, 1) := by decide +kernel
theorem dX5_passed_11 : decode cX5_passed 11 = .ok (.bipush 7, 2) := by decide +kernel
theorem dX5_passed_13 : decode cX5_passed 13 = .ok (.invokestatic 120, 3) := by decide +kernel
theorem dX5_passed_16 : decode cX5_passed 16 = .ok (.ifCond .eq 17, 3) := by decide +kernel
theorem dX5_passed_19 : decode cX5_passed 19 = .ok (.iload_n 3, 1) := by decide +kernel
theorem dX5_passed_20 : decode cX5_passed 20 = .ok (.iconst 0, 1) := by decide +kernel
theorem dX5_passed_21 : decode cX5_passed 21 = .ok (.bipush 15, 2) := by decide +kernel
theorem dX5_passed_23 : decode cX5_passed 23 = .ok (.invokestatic 120, 3) := by decide +kernel
theorem dX5_passed_26 : decode cX5_passed 26 = .ok (.ifCond .eq 7, 3) := by decide +kernel
theorem dX5_passed_29 : decode cX5_passed 29 = .ok (.iconst 0, 1) := by decide +kernel
theorem dX5_passed_30 : decode cX5_passed 30 = .ok (.goto 4, 3) := by decide +kernel
theorem dX5_passed_33 : decode cX5_passed 33 = .ok (.iconst 1, 1) := by decide +kernel
theorem dX5_passed_34 : decode cX5_passed 34 = .ok (.putfield 66, 3) := by decide +kernel
theorem dX5_passed_37 : decode cX5_passed 37 = .ok (.iconst 0, 1) := by decide +kernel
theorem dX5_passed_38 : decode cX5_passed 38 = .ok (.istore 4, 2) := by decide +kernel
theorem dX5_passed_40 : decode cX5_passed 40 = .ok (.iconst 0, 1) := by decide +kernel
theorem dX5_passed_41 : decode cX5_passed 41 = .ok (.istore 5, 2) := by decide +kernel
theorem dX5_passed_43 : decode cX5_passed 43 = .ok (.iload 5, 2) := by decide +kernel
theorem dX5_passed_45 : decode cX5_passed 45 = .ok (.aload_n 0, 1) := by decide +kernel
theorem dX5_passed_46 : decode cX5_passed 46 = .ok (.getfield 59, 3) := by decide +kernel
theorem dX5_passed_49 : decode cX5_passed 49 = .ok (.if_icmp .ge 104, 3) := by decide +kernel
theorem dX5_passed_52 : decode cX5_passed 52 = .ok (.aload_n 0, 1) := by decide +kernel
theorem dX5_passed_53 : decode cX5_passed 53 = .ok (.getfield 66, 3) := by decide +kernel
theorem dX5_passed_56 : decode cX5_passed 56 = .ok (.ifCond .ne 97, 3) := by decide +kernel
theorem dX5_passed_59 : decode cX5_passed 59 = .ok (.bipush 8, 2) := by decide +kernel
theorem dX5_passed_61 : decode cX5_passed 61 = .ok (.iload 5, 2) := by decide +kernel
theorem dX5_passed_63 : decode cX5_passed 63 = .ok (.imul, 1) := by decide +kernel
theorem dX5_passed_64 : decode cX5_passed 64 = .ok (.iload_n 2, 1) := by decide +kernel
theorem dX5_passed_65 : decode cX5_passed 65 = .ok (.iadd, 1) := by decide +kernel
theorem dX5_passed_66 : decode cX5_passed 66 = .ok (.istore 6, 2) := by decide +kernel
theorem dX5_passed_68 : decode cX5_passed 68 = .ok (.aload_n 0, 1) := by decide +kernel
theorem dX5_passed_69 : decode cX5_passed 69 = .ok (.getfield 34, 3) := by decide +kernel
theorem dX5_passed_72 : decode cX5_passed 72 = .ok (.bipush 16, 2) := by decide +kernel
theorem dX5_passed_74 : decode cX5_passed 74 = .ok (.iload 6, 2) := by decide +kernel
theorem dX5_passed_76 : decode cX5_passed 76 = .ok (.imul, 1) := by decide +kernel
theorem dX5_passed_77 : decode cX5_passed 77 = .ok (.iload_n 3, 1) := by decide +kernel
theorem dX5_passed_78 : decode cX5_passed 78 = .ok (.iadd, 1) := by decide +kernel
theorem dX5_passed_79 : decode cX5_passed 79 = .ok (.iaload, 1) := by decide +kernel
theorem dX5_passed_80 : decode cX5_passed 80 = .ok (.istore 7, 2) := by decide +kernel
theorem dX5_passed_82 : decode cX5_passed 82 = .ok (.aload_n 0, 1) := by decide +kernel
theorem dX5_passed_83 : decode cX5_passed 83 = .ok (.getfield 28, 3) := by decide +kernel
theorem dX5_passed_86 : decode cX5_passed 86 = .ok (.iload 6, 2) := by decide +kernel
theorem dX5_passed_88 : decode cX5_passed 88 = .ok (.iaload, 1) := by decide +kernel
theorem dX5_passed_89 : decode cX5_passed 89 = .ok (.ifCond .ne 9, 3) := by decide +kernel
theorem dX5_passed_92 : decode cX5_passed 92 = .ok (.iload 7, 2) := by decide +kernel
theorem dX5_passed_94 : decode cX5_passed 94 = .ok (.iconst 1, 1) := by decide +kernel
theorem dX5_passed_95 : decode cX5_passed 95 = .ok (.if_icmp .eq 20, 3) := by decide +kernel
theorem dX5_passed_98 : decode cX5_passed 98 = .ok (.aload_n 0, 1) := by decide +kernel
theorem dX5_passed_99 : decode cX5_passed 99 = .ok (.getfield 28, 3) := by decide +kernel
theorem dX5_passed_102 : decode cX5_passed 102 = .ok (.iload 6, 2) := by decide +kernel
theorem dX5_passed_104 : decode cX5_passed 104 = .ok (.iaload, 1) := by decide +kernel
theorem dX5_passed_105 : decode cX5_passed 105 = .ok (.iconst 1, 1) := by decide +kernel
theorem dX5_passed_106 : decode cX5_passed 106 = .ok (.if_icmp .ne 13, 3) := by decide +kernel
theorem dX5_passed_109 : decode cX5_passed 109 = .ok (.iload 7, 2) := by decide +kernel
theorem dX5_passed_111 : decode cX5_passed 111 = .ok (.iconst 2, 1) := by decide +kernel
theorem dX5_passed_112 : decode cX5_passed 112 = .ok (.if_icmp .eq 7, 3) := by decide +kernel
theorem dX5_passed_115 : decode cX5_passed 115 = .ok (.iconst 1, 1) := by decide +kernel
theorem dX5_passed_116 : decode cX5_passed 116 = .ok (.goto 4, 3) := by decide +kernel
theorem dX5_passed_119 : decode cX5_passed 119 = .ok (.iconst 0, 1) := by decide +kernel
theorem dX5_passed_120 : decode cX5_passed 120 = .ok (.istore 8, 2) := by decide +kernel
theorem dX5_passed_122 : decode cX5_passed 122 = .ok (.iload 5, 2) := by decide +kernel
theorem dX5_passed_124 : decode cX5_passed 124 = .ok (.iload_n 1, 1) := by decide +kernel
theorem dX5_passed_125 : decode cX5_passed 125 = .ok (.if_icmp .eq 18, 3) := by decide +kernel
theorem dX5_passed_128 : decode cX5_passed 128 = .ok (.iload 8, 2) := by decide +kernel
theorem dX5_passed_130 : decode cX5_passed 130 = .ok (.ifCond .eq 13, 3) := by decide +kernel
theorem dX5_passed_133 : decode cX5_passed 133 = .ok (.iload 4, 2) := by decide +kernel
theorem dX5_passed_135 : decode cX5_passed 135 = .ok (.iconst 1, 1) := by decide +kernel
theorem dX5_passed_136 : decode cX5_passed 136 = .ok (.iload 5, 2) := by decide +kernel
theorem dX5_passed_138 : decode cX5_passed 138 = .ok (.ishl, 1) := by decide +kernel
theorem dX5_passed_139 : decode cX5_passed 139 = .ok (.iadd, 1) := by decide +kernel
theorem dX5_passed_140 : decode cX5_passed 140 = .ok (.goto 5, 3) := by decide +kernel
theorem dX5_passed_143 : decode cX5_passed 143 = .ok (.iload 4, 2) := by decide +kernel
theorem dX5_passed_145 : decode cX5_passed 145 = .ok (.istore 4, 2) := by decide +kernel
theorem dX5_passed_147 : decode cX5_passed 147 = .ok (.iinc 5 1, 3) := by decide +kernel
theorem dX5_passed_150 : decode cX5_passed 150 = .ok (.goto (-107), 3) := by decide +kernel
theorem dX5_passed_153 : decode cX5_passed 153 = .ok (.iload 4, 2) := by decide +kernel
theorem dX5_passed_155 : decode cX5_passed 155 = .ok (.ireturn, 1) := by decide +kernel
theorem dX5_knows_0 : decode cX5_knows 0 = .ok (.aload_n 0, 1) := by decide +kernel
theorem dX5_knows_1 : decode cX5_knows 1 = .ok (.aload_n 0, 1) := by decide +kernel
theorem dX5_knows_2 : decode cX5_knows 2 = .ok (.iload_n 1, 1) := by decide +kernel
theorem dX5_knows_3 : decode cX5_knows 3 = .ok (.invokevirtual 117, 3) := by decide +kernel
theorem dX5_knows_6 : decode cX5_knows 6 = .ok (.ifCond .eq 17, 3) := by decide +kernel
theorem dX5_knows_9 : decode cX5_knows 9 = .ok (.iload_n 2, 1) := by decide +kernel
theorem dX5_knows_10 : decode cX5_knows 10 = .ok (.iconst 0, 1) := by decide +kernel
theorem dX5_knows_11 : decode cX5_knows 11 = .ok (.bipush 7, 2) := by decide +kernel
theorem dX5_knows_13 : decode cX5_knows 13 = .ok (.invokestatic 120, 3) := by decide +kernel
theorem dX5_knows_16 : decode cX5_knows 16 = .ok (.ifCond .eq 7, 3) := by decide +kernel
theorem dX5_knows_19 : decode cX5_knows 19 = .ok (.iconst 0, 1) := by decide +kernel
theorem dX5_knows_20 : decode cX5_knows 20 = .ok (.goto 4, 3) := by decide +kernel
theorem dX5_knows_23 : decode cX5_knows 23 = .ok (.iconst 1, 1) := by decide +kernel
theorem dX5_knows_24 : decode cX5_knows 24 = .ok (.putfield 66, 3) := by decide +kernel
theorem dX5_knows_27 : decode cX5_knows 27 = .ok (.aload_n 0, 1) := by decide +kernel
theorem dX5_knows_28 : decode cX5_knows 28 = .ok (.getfield 66, 3) := by decide +kernel
theorem dX5_knows_31 : decode cX5_knows 31 = .ok (.ifCond .ne 7, 3) := by decide +kernel
theorem dX5_knows_34 : decode cX5_knows 34 = .ok (.iconst 1, 1) := by decide +kernel
theorem dX5_knows_35 : decode cX5_knows 35 = .ok (.goto 4, 3) := by decide +kernel
theorem dX5_knows_38 : decode cX5_knows 38 = .ok (.iconst 0, 1) := by decide +kernel
theorem dX5_knows_39 : decode cX5_knows 39 = .ok (.ireturn, 1) := by decide +kernel
theorem dX5_mode_0 : decode cX5_mode 0 = .ok (.aload_n 0, 1) := by decide +kernel
theorem dX5_mode_1 : decode cX5_mode 1 = .ok (.iload_n 1, 1) := by decide +kernel
theorem dX5_mode_2 : decode cX5_mode 2 = .ok (.iload_n 2, 1) := by decide +kernel
theorem dX5_mode_3 : decode cX5_mode 3 = .ok (.invokevirtual 136, 3) := by decide +kernel
theorem dX5_mode_6 : decode cX5_mode 6 = .ok (.ifCond .eq 17, 3) := by decide +kernel
theorem dX5_mode_9 : decode cX5_mode 9 = .ok (.aload_n 0, 1) := by decide +kernel
theorem dX5_mode_10 : decode cX5_mode 10 = .ok (.getfield 28, 3) := by decide +kernel
theorem dX5_mode_13 : decode cX5_mode 13 = .ok (.bipush 8, 2) := by decide +kernel
theorem dX5_mode_15 : decode cX5_mode 15 = .ok (.iload_n 1, 1) := by decide +kernel
theorem dX5_mode_16 : decode cX5_mode 16 = .ok (.imul, 1) := by decide +kernel
theorem dX5_mode_17 : decode cX5_mode 17 = .ok (.iload_n 2, 1) := by decide +kernel
theorem dX5_mode_18 : decode cX5_mode 18 = .ok (.iadd, 1) := by decide +kernel
theorem dX5_mode_19 : decode cX5_mode 19 = .ok (.iaload, 1) := by decide +kernel
theorem dX5_mode_20 : decode cX5_mode 20 = .ok (.goto 4, 3) := by decide +kernel
theorem dX5_mode_23 : decode cX5_mode 23 = .ok (.iconst 0, 1) := by decide +kernel
theorem dX5_mode_24 : decode cX5_mode 24 = .ok (.ireturn, 1) := by decide +kernel
theorem dX5_sources_0 : decode cX5_sources 0 = .ok (.aload_n 0, 1) := by decide +kernel
theorem dX5_sources_1 : decode cX5_sources 1 = .ok (.iload_n 1, 1) := by decide +kernel
theorem dX5_sources_2 : decode cX5_sources 2 = .ok (.iload_n 2, 1) := by decide +kernel
theorem dX5_sources_3 : decode cX5_sources 3 = .ok (.invokevirtual 136, 3) := by decide +kernel
theorem dX5_sources_6 : decode cX5_sources 6 = .ok (.ifCond .eq 25, 3) := by decide +kernel
theorem dX5_sources_9 : decode cX5_sources 9 = .ok (.aload_n 0, 1) := by decide +kernel
theorem dX5_sources_10 : decode cX5_sources 10 = .ok (.bipush 8, 2) := by decide +kernel
theorem dX5_sources_12 : decode cX5_sources 12 = .ok (.iload_n 1, 1) := by decide +kernel
theorem dX5_sources_13 : decode cX5_sources 13 = .ok (.imul, 1) := by decide +kernel
theorem dX5_sources_14 : decode cX5_sources 14 = .ok (.iload_n 2, 1) := by decide +kernel
theorem dX5_sources_15 : decode cX5_sources 15 = .ok (.iadd, 1) := by decide +kernel
theorem dX5_sources_16 : decode cX5_sources 16 = .ok (.iload_n 3, 1) := by decide +kernel
theorem dX5_sources_17 : decode cX5_sources 17 = .ok (.ifCond .eq 7, 3) := by decide +kernel
theorem dX5_sources_20 : decode cX5_sources 20 = .ok (.iconst 1, 1) := by decide +kernel
theorem dX5_sources_21 : decode cX5_sources 21 = .ok (.goto 4, 3) := by decide +kernel
theorem dX5_sources_24 : decode cX5_sources 24 = .ok (.iconst 2, 1) := by decide +kernel
theorem dX5_sources_25 : decode cX5_sources 25 = .ok (.invokevirtual 90, 3) := by decide +kernel
theorem dX5_sources_28 : decode cX5_sources 28 = .ok (.goto 4, 3) := by decide +kernel
theorem dX5_sources_31 : decode cX5_sources 31 = .ok (.iconst 0, 1) := by decide +kernel
theorem dX5_sources_32 : decode cX5_sources 32 = .ok (.ireturn, 1) := by decide +kernel
theorem dX5_timer_0 : decode cX5_timer 0 = .ok (.aload_n 0, 1) := by decide +kernel
theorem dX5_timer_1 : decode cX5_timer 1 = .ok (.aload_n 0, 1) := by decide +kernel
theorem dX5_timer_2 : decode cX5_timer 2 = .ok (.iload_n 1, 1) := by decide +kernel
theorem dX5_timer_3 : decode cX5_timer 3 = .ok (.invokevirtual 117, 3) := by decide +kernel
theorem dX5_timer_6 : decode cX5_timer 6 = .ok (.ifCond .eq 27, 3) := by decide +kernel
theorem dX5_timer_9 : decode cX5_timer 9 = .ok (.iload_n 2, 1) := by decide +kernel
theorem dX5_timer_10 : decode cX5_timer 10 = .ok (.iconst 0, 1) := by decide +kernel
theorem dX5_timer_11 : decode cX5_timer 11 = .ok (.bipush 7, 2) := by decide +kernel
theorem dX5_timer_13 : decode cX5_timer 13 = .ok (.invokestatic 120, 3) := by decide +kernel
theorem dX5_timer_16 : decode cX5_timer 16 = .ok (.ifCond .eq 17, 3) := by decide +kernel
theorem dX5_timer_19 : decode cX5_timer 19 = .ok (.iload_n 3, 1) := by decide +kernel
theorem dX5_timer_20 : decode cX5_timer 20 = .ok (.iconst 0, 1) := by decide +kernel
theorem dX5_timer_21 : decode cX5_timer 21 = .ok (.bipush 15, 2) := by decide +kernel
theorem dX5_timer_23 : decode cX5_timer 23 = .ok (.invokestatic 120, 3) := by decide +kernel
theorem dX5_timer_26 : decode cX5_timer 26 = .ok (.ifCond .eq 7, 3) := by decide +kernel
theorem dX5_timer_29 : decode cX5_timer 29 = .ok (.iconst 0, 1) := by decide +kernel
theorem dX5_timer_30 : decode cX5_timer 30 = .ok (.goto 4, 3) := by decide +kernel
theorem dX5_timer_33 : decode cX5_timer 33 = .ok (.iconst 1, 1) := by decide +kernel
theorem dX5_timer_34 : decode cX5_timer 34 = .ok (.putfield 66, 3) := by decide +kernel
theorem dX5_timer_37 : decode cX5_timer 37 = .ok (.aload_n 0, 1) := by decide +kernel
theorem dX5_timer_38 : decode cX5_timer 38 = .ok (.getfield 66, 3) := by decide +kernel
theorem dX5_timer_41 : decode cX5_timer 41 = .ok (.ifCond .le 7, 3) := by decide +kernel
theorem dX5_timer_44 : decode cX5_timer 44 = .ok (.iconst 0, 1) := by decide +kernel
theorem dX5_timer_45 : decode cX5_timer 45 = .ok (.goto 19, 3) := by decide +kernel
theorem dX5_timer_48 : decode cX5_timer 48 = .ok (.aload_n 0, 1) := by decide +kernel
theorem dX5_timer_49 : decode cX5_timer 49 = .ok (.getfield 37, 3) := by decide +kernel
theorem dX5_timer_52 : decode cX5_timer 52 = .ok (.bipush 16, 2) := by decide +kernel
theorem dX5_timer_54 : decode cX5_timer 54 = .ok (.bipush 8, 2) := by decide +kernel
theorem dX5_timer_56 : decode cX5_timer 56 = .ok (.iload_n 1, 1) := by decide +kernel
theorem dX5_timer_57 : decode cX5_timer 57 = .ok (.imul, 1) := by decide +kernel
theorem dX5_timer_58 : decode cX5_timer 58 = .ok (.iload_n 2, 1) := by decide +kernel
theorem dX5_timer_59 : decode cX5_timer 59 = .ok (.iadd, 1) := by decide +kernel
theorem dX5_timer_60 : decode cX5_timer 60 = .ok (.imul, 1) := by decide +kernel
theorem dX5_timer_61 : decode cX5_timer 61 = .ok (.iload_n 3, 1) := by decide +kernel
theorem dX5_timer_62 : decode cX5_timer 62 = .ok (.iadd, 1) := by decide +kernel
theorem dX5_timer_63 : decode cX5_timer 63 = .ok (.iaload, 1) := by decide +kernel
theorem dX5_timer_64 : decode cX5_timer 64 = .ok (.ireturn, 1) := by decide +kernel
theorem dX5_groupTimer_0 : decode cX5_groupTimer 0 = .ok (.aload_n 0, 1) := by decide +kernel
theorem dX5_groupTimer_1 : decode cX5_groupTimer 1 = .ok (.iload_n 1, 1) := by decide +kernel
theorem dX5_groupTimer_2 : decode cX5_groupTimer 2 = .ok (.iload_n 2, 1) := by decide +kernel
theorem dX5_groupTimer_3 : decode cX5_groupTimer 3 = .ok (.invokevirtual 136, 3) := by decide +kernel
theorem dX5_groupTimer_6 : decode cX5_groupTimer 6 = .ok (.ifCond .eq 17, 3) := by decide +kernel
theorem dX5_groupTimer_9 : decode cX5_groupTimer 9 = .ok (.aload_n 0, 1) := by decide +kernel
theorem dX5_groupTimer_10 : decode cX5_groupTimer 10 = .ok (.getfield 31, 3) := by decide +kernel
theorem dX5_groupTimer_13 : decode cX5_groupTimer 13 = .ok (.bipush 8, 2) := by decide +kernel
theorem dX5_groupTimer_15 : decode cX5_groupTimer 15 = .ok (.iload_n 1, 1) := by decide +kernel
theorem dX5_groupTimer_16 : decode cX5_groupTimer 16 = .ok (.imul, 1) := by decide +kernel
theorem dX5_groupTimer_17 : decode cX5_groupTimer 17 = .ok (.iload_n 2, 1) := by decide +kernel
theorem dX5_groupTimer_18 : decode cX5_groupTimer 18 = .ok (.iadd, 1) := by decide +kernel
theorem dX5_groupTimer_19 : decode cX5_groupTimer 19 = .ok (.iaload, 1) := by decide +kernel
theorem dX5_groupTimer_20 : decode cX5_groupTimer 20 = .ok (.goto 4, 3) := by decide +kernel
theorem dX5_groupTimer_23 : decode cX5_groupTimer 23 = .ok (.iconst 0, 1) := by decide +kernel
theorem dX5_groupTimer_24 : decode cX5_groupTimer 24 = .ok (.ireturn, 1) := by decide +kernel
theorem dX5_sent_0 : decode cX5_sent 0 = .ok (.aload_n 0, 1) := by decide +kernel
theorem dX5_sent_1 : decode cX5_sent 1 = .ok (.iconst 0, 1) := by decide +kernel
theorem dX5_sent_2 : decode cX5_sent 2 = .ok (.putfield 66, 3) := by decide +kernel
theorem dX5_sent_5 : decode cX5_sent 5 = .ok (.aload_n 0, 1) := by decide +kernel
theorem dX5_sent_6 : decode cX5_sent 6 = .ok (.getfield 72, 3) := by decide +kernel
theorem dX5_sent_9 : decode cX5_sent 9 = .ok (.ireturn, 1) := by decide +kernel
theorem dX5_asked_0 : decode cX5_asked 0 = .ok (.aload_n 0, 1) := by decide +kernel
theorem dX5_asked_1 : decode cX5_asked 1 = .ok (.iload_n 1, 1) := by decide +kernel
theorem dX5_asked_2 : decode cX5_asked 2 = .ok (.ifCond .lt 17, 3) := by decide +kernel
theorem dX5_asked_5 : decode cX5_asked 5 = .ok (.iload_n 1, 1) := by decide +kernel
theorem dX5_asked_6 : decode cX5_asked 6 = .ok (.bipush 39, 2) := by decide +kernel
theorem dX5_asked_8 : decode cX5_asked 8 = .ok (.if_icmp .gt 11, 3) := by decide +kernel
theorem dX5_asked_11 : decode cX5_asked 11 = .ok (.iload_n 1, 1) := by decide +kernel
theorem dX5_asked_12 : decode cX5_asked 12 = .ok (.aload_n 0, 1) := by decide +kernel
theorem dX5_asked_13 : decode cX5_asked 13 = .ok (.getfield 72, 3) := by decide +kernel
theorem dX5_asked_16 : decode cX5_asked 16 = .ok (.if_icmp .lt 7, 3) := by decide +kernel
theorem dX5_asked_19 : decode cX5_asked 19 = .ok (.iconst 1, 1) := by decide +kernel
theorem dX5_asked_20 : decode cX5_asked 20 = .ok (.goto 17, 3) := by decide +kernel
theorem dX5_asked_23 : decode cX5_asked 23 = .ok (.iload_n 2, 1) := by decide +kernel
theorem dX5_asked_24 : decode cX5_asked 24 = .ok (.iconst 0, 1) := by decide +kernel
theorem dX5_asked_25 : decode cX5_asked 25 = .ok (.iconst 3, 1) := by decide +kernel
theorem dX5_asked_26 : decode cX5_asked 26 = .ok (.invokestatic 120, 3) := by decide +kernel
theorem dX5_asked_29 : decode cX5_asked 29 = .ok (.ifCond .eq 7, 3) := by decide +kernel
theorem dX5_asked_32 : decode cX5_asked 32 = .ok (.iconst 0, 1) := by decide +kernel
theorem dX5_asked_33 : decode cX5_asked 33 = .ok (.goto 4, 3) := by decide +kernel
theorem dX5_asked_36 : decode cX5_asked 36 = .ok (.iconst 2, 1) := by decide +kernel
theorem dX5_asked_37 : decode cX5_asked 37 = .ok (.putfield 66, 3) := by decide +kernel
theorem dX5_asked_40 : decode cX5_asked 40 = .ok (.aload_n 0, 1) := by decide +kernel
theorem dX5_asked_41 : decode cX5_asked 41 = .ok (.getfield 66, 3) := by decide +kernel
theorem dX5_asked_44 : decode cX5_asked 44 = .ok (.ifCond .le 5, 3) := by decide +kernel
theorem dX5_asked_47 : decode cX5_asked 47 = .ok (.iconst 0, 1) := by decide +kernel
theorem dX5_asked_48 : decode cX5_asked 48 = .ok (.ireturn, 1) := by decide +kernel
theorem dX5_asked_49 : decode cX5_asked 49 = .ok (.aload_n 0, 1) := by decide +kernel
theorem dX5_asked_50 : decode cX5_asked 50 = .ok (.getfield 72, 3) := by decide +kernel
theorem dX5_asked_53 : decode cX5_asked 53 = .ok (.iconst 1, 1) := by decide +kernel
theorem dX5_asked_54 : decode cX5_asked 54 = .ok (.isub, 1) := by decide +kernel
theorem dX5_asked_55 : decode cX5_asked 55 = .ok (.iload_n 1, 1) := by decide +kernel
theorem dX5_asked_56 : decode cX5_asked 56 = .ok (.isub, 1) := by decide +kernel
theorem dX5_asked_57 : decode cX5_asked 57 = .ok (.bipush 40, 2) := by decide +kernel
theorem dX5_asked_59 : decode cX5_asked 59 = .ok (.irem, 1) := by decide +kernel
theorem dX5_asked_60 : decode cX5_asked 60 = .ok (.istore_n 3, 1) := by decide +kernel
theorem dX5_asked_61 : decode cX5_asked 61 = .ok (.iload_n 2, 1) := by decide +kernel
theorem dX5_asked_62 : decode cX5_asked 62 = .ok (.ifCond .ne 12, 3) := by decide +kernel
theorem dX5_asked_65 : decode cX5_asked 65 = .ok (.aload_n 0, 1) := by decide +kernel
theorem dX5_asked_66 : decode cX5_asked 66 = .ok (.getfield 47, 3) := by decide +kernel
theorem dX5_asked_69 : decode cX5_asked 69 = .ok (.iload_n 3, 1) := by decide +kernel
theorem dX5_asked_70 : decode cX5_asked 70 = .ok (.iaload, 1) := by decide +kernel
theorem dX5_asked_71 : decode cX5_asked 71 = .ok (.goto 37, 3) := by decide +kernel
theorem dX5_asked_74 : decode cX5_asked 74 = .ok (.iload_n 2, 1) := by decide +kernel
theorem dX5_asked_75 : decode cX5_asked 75 = .ok (.iconst 1, 1) := by decide +kernel
theorem dX5_asked_76 : decode cX5_asked 76 = .ok (.if_icmp .ne 12, 3) := by decide +kernel
theorem dX5_asked_79 : decode cX5_asked 79 = .ok (.aload_n 0, 1) := by decide +kernel
theorem dX5_asked_80 : decode cX5_asked 80 = .ok (.getfield 50, 3) := by decide +kernel
theorem dX5_asked_83 : decode cX5_asked 83 = .ok (.iload_n 3, 1) := by decide +kernel
theorem dX5_asked_84 : decode cX5_asked 84 = .ok (.iaload, 1) := by decide +kernel
theorem dX5_asked_85 : decode cX5_asked 85 = .ok (.goto 23, 3) := by decide +kernel
theorem dX5_asked_88 : decode cX5_asked 88 = .ok (.iload_n 2, 1) := by decide +kernel
theorem dX5_asked_89 : decode cX5_asked 89 = .ok (.iconst 2, 1) := by decide +kernel
theorem dX5_asked_90 : decode cX5_asked 90 = .ok (.if_icmp .ne 12, 3) := by decide +kernel
theorem dX5_asked_93 : decode cX5_asked 93 = .ok (.aload_n 0, 1) := by decide +kernel
theorem dX5_asked_94 : decode cX5_asked 94 = .ok (.getfield 53, 3) := by decide +kernel
theorem dX5_asked_97 : decode cX5_asked 97 = .ok (.iload_n 3, 1) := by decide +kernel
theorem dX5_asked_98 : decode cX5_asked 98 = .ok (.iaload, 1) := by decide +kernel
theorem dX5_asked_99 : decode cX5_asked 99 = .ok (.goto 9, 3) := by decide +kernel
theorem dX5_asked_102 : decode cX5_asked 102 = .ok (.aload_n 0, 1) := by decide +kernel
theorem dX5_asked_103 : decode cX5_asked 103 = .ok (.getfield 56, 3) := by decide +kernel
theorem dX5_asked_106 : decode cX5_asked 106 = .ok (.iload_n 3, 1) := by decide +kernel
theorem dX5_asked_107 : decode cX5_asked 107 = .ok (.iaload, 1) := by decide +kernel
theorem dX5_asked_108 : decode cX5_asked 108 = .ok (.ireturn, 1) := by decide +kernel
theorem dX5_told_0 : decode cX5_told 0 = .ok (.aload_n 0, 1) := by decide +kernel
theorem dX5_told_1 : decode cX5_told 1 = .ok (.aload_n 0, 1) := by decide +kernel
theorem dX5_told_2 : decode cX5_told 2 = .ok (.iload_n 1, 1) := by decide +kernel
theorem dX5_told_3 : decode cX5_told 3 = .ok (.invokevirtual 117, 3) := by decide +kernel
theorem dX5_told_6 : decode cX5_told 6 = .ok (.ifCond .ne 7, 3) := by decide +kernel
theorem dX5_told_9 : decode cX5_told 9 = .ok (.iconst 1, 1) := by decide +kernel
theorem dX5_told_10 : decode cX5_told 10 = .ok (.goto 17, 3) := by decide +kernel
theorem dX5_told_13 : decode cX5_told 13 = .ok (.iload_n 2, 1) := by decide +kernel
theorem dX5_told_14 : decode cX5_told 14 = .ok (.iconst 0, 1) := by decide +kernel
theorem dX5_told_15 : decode cX5_told 15 = .ok (.iconst 5, 1) := by decide +kernel
theorem dX5_told_16 : decode cX5_told 16 = .ok (.invokestatic 120, 3) := by decide +kernel
theorem dX5_told_19 : decode cX5_told 19 = .ok (.ifCond .eq 7, 3) := by decide +kernel
theorem dX5_told_22 : decode cX5_told 22 = .ok (.iconst 0, 1) := by decide +kernel
theorem dX5_told_23 : decode cX5_told 23 = .ok (.goto 4, 3) := by decide +kernel
theorem dX5_told_26 : decode cX5_told 26 = .ok (.iconst 2, 1) := by decide +kernel
theorem dX5_told_27 : decode cX5_told 27 = .ok (.putfield 66, 3) := by decide +kernel
theorem dX5_told_30 : decode cX5_told 30 = .ok (.aload_n 0, 1) := by decide +kernel
theorem dX5_told_31 : decode cX5_told 31 = .ok (.getfield 66, 3) := by decide +kernel
theorem dX5_told_34 : decode cX5_told 34 = .ok (.ifCond .le 5, 3) := by decide +kernel
theorem dX5_told_37 : decode cX5_told 37 = .ok (.iconst 0, 1) := by decide +kernel
theorem dX5_told_38 : decode cX5_told 38 = .ok (.ireturn, 1) := by decide +kernel
theorem dX5_told_39 : decode cX5_told 39 = .ok (.iload_n 2, 1) := by decide +kernel
theorem dX5_told_40 : decode cX5_told 40 = .ok (.ifCond .ne 9, 3) := by decide +kernel
theorem dX5_told_43 : decode cX5_told 43 = .ok (.aload_n 0, 1) := by decide +kernel
theorem dX5_told_44 : decode cX5_told 44 = .ok (.iload_n 1, 1) := by decide +kernel
theorem dX5_told_45 : decode cX5_told 45 = .ok (.invokevirtual 98, 3) := by decide +kernel
theorem dX5_told_48 : decode cX5_told 48 = .ok (.ireturn, 1) := by decide +kernel
theorem dX5_told_49 : decode cX5_told 49 = .ok (.iload_n 2, 1) := by decide +kernel
theorem dX5_told_50 : decode cX5_told 50 = .ok (.iconst 1, 1) := by decide +kernel
theorem dX5_told_51 : decode cX5_told 51 = .ok (.if_icmp .ne 10, 3) := by decide +kernel
theorem dX5_told_54 : decode cX5_told 54 = .ok (.aload_n 0, 1) := by decide +kernel
theorem dX5_told_55 : decode cX5_told 55 = .ok (.getfield 7, 3) := by decide +kernel
theorem dX5_told_58 : decode cX5_told 58 = .ok (.iload_n 1, 1) := by decide +kernel
theorem dX5_told_59 : decode cX5_told 59 = .ok (.iaload, 1) := by decide +kernel
theorem dX5_told_60 : decode cX5_told 60 = .ok (.ireturn, 1) := by decide +kernel
theorem dX5_told_61 : decode cX5_told 61 = .ok (.iload_n 2, 1) := by decide +kernel
theorem dX5_told_62 : decode cX5_told 62 = .ok (.iconst 2, 1) := by decide +kernel
theorem dX5_told_63 : decode cX5_told 63 = .ok (.if_icmp .ne 10, 3) := by decide +kernel
theorem dX5_told_66 : decode cX5_told 66 = .ok (.aload_n 0, 1) := by decide +kernel
theorem dX5_told_67 : decode cX5_told 67 = .ok (.getfield 19, 3) := by decide +kernel
theorem dX5_told_70 : decode cX5_told 70 = .ok (.iload_n 1, 1) := by decide +kernel
theorem dX5_told_71 : decode cX5_told 71 = .ok (.iaload, 1) := by decide +kernel
theorem dX5_told_72 : decode cX5_told 72 = .ok (.ireturn, 1) := by decide +kernel
theorem dX5_told_73 : decode cX5_told 73 = .ok (.iload_n 2, 1) := by decide +kernel
theorem dX5_told_74 : decode cX5_told 74 = .ok (.iconst 3, 1) := by decide +kernel
theorem dX5_told_75 : decode cX5_told 75 = .ok (.if_icmp .ne 10, 3) := by decide +kernel
theorem dX5_told_78 : decode cX5_told 78 = .ok (.aload_n 0, 1) := by decide +kernel
theorem dX5_told_79 : decode cX5_told 79 = .ok (.getfield 22, 3) := by decide +kernel
theorem dX5_told_82 : decode cX5_told 82 = .ok (.iload_n 1, 1) := by decide +kernel
theorem dX5_told_83 : decode cX5_told 83 = .ok (.iaload, 1) := by decide +kernel
theorem dX5_told_84 : decode cX5_told 84 = .ok (.ireturn, 1) := by decide +kernel
theorem dX5_told_85 : decode cX5_told 85 = .ok (.iload_n 2, 1) := by decide +kernel
theorem dX5_told_86 : decode cX5_told 86 = .ok (.iconst 5, 1) := by decide +kernel
theorem dX5_told_87 : decode cX5_told 87 = .ok (.if_icmp .ne 22, 3) := by decide +kernel
theorem dX5_told_90 : decode cX5_told 90 = .ok (.aload_n 0, 1) := by decide +kernel
theorem dX5_told_91 : decode cX5_told 91 = .ok (.iload_n 1, 1) := by decide +kernel
theorem dX5_told_92 : decode cX5_told 92 = .ok (.invokevirtual 75, 3) := by decide +kernel
theorem dX5_told_95 : decode cX5_told 95 = .ok (.ifCond .eq 12, 3) := by decide +kernel
theorem dX5_told_98 : decode cX5_told 98 = .ok (.aload_n 0, 1) := by decide +kernel
theorem dX5_told_99 : decode cX5_told 99 = .ok (.getfield 25, 3) := by decide +kernel
theorem dX5_told_102 : decode cX5_told 102 = .ok (.iload_n 1, 1) := by decide +kernel
theorem dX5_told_103 : decode cX5_told 103 = .ok (.iaload, 1) := by decide +kernel
theorem dX5_told_104 : decode cX5_told 104 = .ok (.goto 4, 3) := by decide +kernel
theorem dX5_told_107 : decode cX5_told 107 = .ok (.iconst 0, 1) := by decide +kernel
theorem dX5_told_108 : decode cX5_told 108 = .ok (.ireturn, 1) := by decide +kernel
theorem dX5_told_109 : decode cX5_told 109 = .ok (.iconst 0, 1) := by decide +kernel
theorem dX5_told_110 : decode cX5_told 110 = .ok (.istore_n 3, 1) := by decide +kernel
theorem dX5_told_111 : decode cX5_told 111 = .ok (.iconst 0, 1) := by decide +kernel
theorem dX5_told_112 : decode cX5_told 112 = .ok (.istore 4, 2) := by decide +kernel
theorem dX5_told_114 : decode cX5_told 114 = .ok (.iload 4, 2) := by decide +kernel
theorem dX5_told_116 : decode cX5_told 116 = .ok (.bipush 8, 2) := by decide +kernel
theorem dX5_told_118 : decode cX5_told 118 = .ok (.if_icmp .ge 33, 3) := by decide +kernel
theorem dX5_told_121 : decode cX5_told 121 = .ok (.aload_n 0, 1) := by decide +kernel
theorem dX5_told_122 : decode cX5_told 122 = .ok (.getfield 28, 3) := by decide +kernel
theorem dX5_told_125 : decode cX5_told 125 = .ok (.bipush 8, 2) := by decide +kernel
theorem dX5_told_127 : decode cX5_told 127 = .ok (.iload_n 1, 1) := by decide +kernel
theorem dX5_told_128 : decode cX5_told 128 = .ok (.imul, 1) := by decide +kernel
theorem dX5_told_129 : decode cX5_told 129 = .ok (.iload 4, 2) := by decide +kernel
theorem dX5_told_131 : decode cX5_told 131 = .ok (.iadd, 1) := by decide +kernel
theorem dX5_told_132 : decode cX5_told 132 = .ok (.iaload, 1) := by decide +kernel
theorem dX5_told_133 : decode cX5_told 133 = .ok (.iconst (-1), 1) := by decide +kernel
theorem dX5_told_134 : decode cX5_told 134 = .ok (.if_icmp .ne 7, 3) := by decide +kernel
theorem dX5_told_137 : decode cX5_told 137 = .ok (.iload_n 3, 1) := by decide +kernel
theorem dX5_told_138 : decode cX5_told 138 = .ok (.goto 6, 3) := by decide +kernel
theorem dX5_told_141 : decode cX5_told 141 = .ok (.iload_n 3, 1) := by decide +kernel
theorem dX5_told_142 : decode cX5_told 142 = .ok (.iconst 1, 1) := by decide +kernel
theorem dX5_told_143 : decode cX5_told 143 = .ok (.iadd, 1) := by decide +kernel
theorem dX5_told_144 : decode cX5_told 144 = .ok (.istore_n 3, 1) := by decide +kernel
theorem dX5_told_145 : decode cX5_told 145 = .ok (.iinc 4 1, 3) := by decide +kernel
theorem dX5_told_148 : decode cX5_told 148 = .ok (.goto (-34), 3) := by decide +kernel
theorem dX5_told_151 : decode cX5_told 151 = .ok (.iload_n 3, 1) := by decide +kernel
theorem dX5_told_152 : decode cX5_told 152 = .ok (.ireturn, 1) := by decide +kernel
theorem dX5_clear_0 : decode cX5_clear 0 = .ok (.aload_n 0, 1) := by decide +kernel
theorem dX5_clear_1 : decode cX5_clear 1 = .ok (.iconst 0, 1) := by decide +kernel
theorem dX5_clear_2 : decode cX5_clear 2 = .ok (.putfield 66, 3) := by decide +kernel
theorem dX5_clear_5 : decode cX5_clear 5 = .ok (.aload_n 0, 1) := by decide +kernel
theorem dX5_clear_6 : decode cX5_clear 6 = .ok (.invokevirtual 63, 3) := by decide +kernel
theorem dX5_clear_9 : decode cX5_clear 9 = .ok (.return_, 1) := by decide +kernel
